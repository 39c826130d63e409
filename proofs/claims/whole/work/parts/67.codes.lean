theorem cr_171 : CR 171 := by
  intro r k u M D m d t ho he hm hK hM hD h
  have e1 : pz 171 r k M D = (4, r, k, M, D) := by
    unfold pz; rw [if_neg (by decide), if_pos (by decide)]
  have e2 : px 171 u M D m = (upd u 4 4, M, D, m) := by
    unfold px; rw [if_neg (by decide), if_neg (by decide), if_neg (by decide)]
  rw [e1, e2]
  show ER r d t ((4, r, k, M, D)) ((upd u 4 4, M, D, m))
  exact er_ill hM hD hK h (Or.inr (Or.inr (Or.inr rfl)))
theorem cr_172 : CR 172 := by
  intro r k u M D m d t ho he hm hK hM hD h
  have e1 : pz 172 r k M D = f_P_executeG0 172 3 (f_P_fetch 3 r k M D).1 (f_P_fetch 3 r k M D).2 M D := by
    unfold pz; rw [if_neg (by decide), if_neg (by decide), if_neg (by decide), if_neg (by decide), show f_P_modeOf 172 = 3 from by decide]
  have e2 : px 172 u M D m = f_X_tests 5 3 172 u M D m := by
    unfold px; rw [if_neg (by decide), if_neg (by decide), if_pos (by decide), show (172 : Int32) / 32 = 5 from by decide, show (172 : Int32) / 4 - 172 / 4 / 8 * 8 = 3 from by decide]
  rw [e1, e2]
  show ER r d t ((0, upd (f_P_set (f_P_operand 3 (f_P_fetch 3 r k M D).1 (f_P_fetch 3 r k M D).2 M D).1 (f_P_fetch 3 r k M D).1).2 2 (f_P_set (f_P_operand 3 (f_P_fetch 3 r k M D).1 (f_P_fetch 3 r k M D).2 M D).1 (f_P_fetch 3 r k M D).1).1, (f_P_operand 3 (f_P_fetch 3 r k M D).1 (f_P_fetch 3 r k M D).2 M D).2, M, D)) (((f_X_operand 4 (f_X_address 4 u M m).1 (f_X_address 4 u M m).2.1 M (f_X_address 4 u M m).2.2).2, M, D, f_X_put3 2 (f_X_operand 4 (f_X_address 4 u M m).1 (f_X_address 4 u M m).2.1 M (f_X_address 4 u M m).2.2).1 1 (f_X_operand 4 (f_X_address 4 u M m).1 (f_X_address 4 u M m).2.1 M (f_X_address 4 u M m).2.2).2 (f_X_address 4 u M m).2.2))
  exact ld_rel2 ho hM hD (Or.inr (Or.inr ⟨by decide, by decide, by decide, by decide⟩)) (fr_WIDE he hK hM h hm)
theorem cr_173 : CR 173 := by
  intro r k u M D m d t ho he hm hK hM hD h
  have e1 : pz 173 r k M D = f_P_executeG1 5 3 (f_P_fetch 3 r k M D).1 (f_P_fetch 3 r k M D).2 M D := by
    unfold pz; rw [if_neg (by decide), if_neg (by decide), if_pos (by decide), show (173 : Int32) / 32 = 5 from by decide, show f_P_modeOf 173 = 3 from by decide]
  have e2 : px 173 u M D m = f_X_sums_k1 5 3 u M D m (f_X_address 4 u M m) := by
    unfold px; rw [if_pos (by decide), show (173 : Int32) / 32 = 5 from by decide, show (173 : Int32) / 4 - 173 / 4 / 8 * 8 = 3 from by decide]; unfold f_X_sums; rw [if_neg (by decide), show f_X_mode1 3 = 4 from by decide]
  rw [e1, e2]
  show ER r d t (f_P_executeG1 5 3 (f_P_fetch 3 r k M D).1 (f_P_fetch 3 r k M D).2 M D) (f_X_sums_k1 5 3 u M D m (f_X_address 4 u M m))
  exact g1_rel (xm := 4) ho hM hD (Or.inr (Or.inr ⟨by decide, by decide, by decide, by decide⟩)) (by decide) (fr_WIDE he hK hM h hm) (Or.inr (Or.inr (Or.inr (Or.inr (Or.inl rfl)))))
theorem cr_174 : CR 174 := by
  intro r k u M D m d t ho he hm hK hM hD h
  have e1 : pz 174 r k M D = f_P_executeG2 5 3 (f_P_fetch 3 r k M D).1 (f_P_fetch 3 r k M D).2 M D := by
    unfold pz; rw [if_neg (by decide), if_neg (by decide), if_neg (by decide), if_pos (by decide), show (174 : Int32) / 32 = 5 from by decide, show f_P_modeOf 174 = 3 from by decide]
  have e2 : px 174 u M D m = f_X_moves 5 3 u M D m := by
    unfold px; rw [if_neg (by decide), if_pos (by decide), if_neg (by decide), if_pos (by decide), show (174 : Int32) / 32 = 5 from by decide, show (174 : Int32) / 4 - 174 / 4 / 8 * 8 = 3 from by decide]
  rw [e1, e2]
  show ER r d t ((0, upd (f_P_set (f_P_operand 3 (f_P_fetch 3 r k M D).1 (f_P_fetch 3 r k M D).2 M D).1 (f_P_fetch 3 r k M D).1).2 1 (f_P_set (f_P_operand 3 (f_P_fetch 3 r k M D).1 (f_P_fetch 3 r k M D).2 M D).1 (f_P_fetch 3 r k M D).1).1, (f_P_operand 3 (f_P_fetch 3 r k M D).1 (f_P_fetch 3 r k M D).2 M D).2, M, D)) (((f_X_operand 4 (f_X_address 4 u M m).1 (f_X_address 4 u M m).2.1 M (f_X_address 4 u M m).2.2).2, M, D, f_X_put3 1 (f_X_operand 4 (f_X_address 4 u M m).1 (f_X_address 4 u M m).2.1 M (f_X_address 4 u M m).2.2).1 1 (f_X_operand 4 (f_X_address 4 u M m).1 (f_X_address 4 u M m).2.1 M (f_X_address 4 u M m).2.2).2 (f_X_address 4 u M m).2.2))
  exact ld_rel1 ho hM hD (Or.inr (Or.inr ⟨by decide, by decide, by decide, by decide⟩)) (fr_WIDE he hK hM h hm)
theorem cr_175 : CR 175 := by
  intro r k u M D m d t ho he hm hK hM hD h
  have e1 : pz 175 r k M D = (4, r, k, M, D) := by
    unfold pz; rw [if_neg (by decide), if_pos (by decide)]
  have e2 : px 175 u M D m = (upd u 4 4, M, D, m) := by
    unfold px; rw [if_neg (by decide), if_neg (by decide), if_neg (by decide)]
  rw [e1, e2]
  show ER r d t ((4, r, k, M, D)) ((upd u 4 4, M, D, m))
  exact er_ill hM hD hK h (Or.inr (Or.inr (Or.inr rfl)))
theorem cr_176 : CR 176 := by
  intro r k u M D m d t ho he hm hK hM hD h
  have e1 : pz 176 r k M D = f_P_executeG0 176 2 (f_P_fetch 2 r k M D).1 (f_P_fetch 2 r k M D).2 M D := by
    unfold pz; rw [if_neg (by decide), if_neg (by decide), if_neg (by decide), if_neg (by decide), show f_P_modeOf 176 = 2 from by decide]
  have e2 : px 176 u M D m = f_X_tests 5 4 176 u M D m := by
    unfold px; rw [if_neg (by decide), if_neg (by decide), if_pos (by decide), show (176 : Int32) / 32 = 5 from by decide, show (176 : Int32) / 4 - 176 / 4 / 8 * 8 = 4 from by decide]
  rw [e1, e2]
  show ER r d t ((0, f_P_branch 5 (f_P_fetch 2 r k M D).1, (f_P_fetch 2 r k M D).2, M, D)) (f_X_tests_k18 5 4 176 u M D m (f_X_branch 5 u M m))
  exact br_rel ho hM hD (fr_NEXT he hK hM h hm) (Or.inr (Or.inr (Or.inr (Or.inr (Or.inr (Or.inl rfl))))))
theorem cr_177 : CR 177 := by
  intro r k u M D m d t ho he hm hK hM hD h
  have e1 : pz 177 r k M D = f_P_executeG1 5 4 (f_P_fetch 4 r k M D).1 (f_P_fetch 4 r k M D).2 M D := by
    unfold pz; rw [if_neg (by decide), if_neg (by decide), if_pos (by decide), show (177 : Int32) / 32 = 5 from by decide, show f_P_modeOf 177 = 4 from by decide]
  have e2 : px 177 u M D m = f_X_sums_k1 5 4 u M D m (f_X_address 8 u M m) := by
    unfold px; rw [if_pos (by decide), show (177 : Int32) / 32 = 5 from by decide, show (177 : Int32) / 4 - 177 / 4 / 8 * 8 = 4 from by decide]; unfold f_X_sums; rw [if_neg (by decide), show f_X_mode1 4 = 8 from by decide]
  rw [e1, e2]
  show ER r d t (f_P_executeG1 5 4 (f_P_fetch 4 r k M D).1 (f_P_fetch 4 r k M D).2 M D) (f_X_sums_k1 5 4 u M D m (f_X_address 8 u M m))
  exact g1_rel (xm := 8) ho hM hD (Or.inr (Or.inr ⟨by decide, by decide, by decide, by decide⟩)) (by decide) (fr_INY he hK hM h hm) (Or.inr (Or.inr (Or.inr (Or.inr (Or.inl rfl)))))
theorem cr_178 : CR 178 := by
  intro r k u M D m d t ho he hm hK hM hD h
  have e1 : pz 178 r k M D = (4, r, k, M, D) := by
    unfold pz; rw [if_neg (by decide), if_pos (by decide)]
  have e2 : px 178 u M D m = f_X_moves 5 4 u M D m := by
    unfold px; rw [if_neg (by decide), if_pos (by decide), if_neg (by decide), if_pos (by decide), show (178 : Int32) / 32 = 5 from by decide, show (178 : Int32) / 4 - 178 / 4 / 8 * 8 = 4 from by decide]
  rw [e1, e2]
  show ER r d t ((4, r, k, M, D)) ((upd u 4 4, M, D, m))
  exact er_ill hM hD hK h (Or.inr (Or.inr (Or.inr rfl)))
theorem cr_179 : CR 179 := by
  intro r k u M D m d t ho he hm hK hM hD h
  have e1 : pz 179 r k M D = (4, r, k, M, D) := by
    unfold pz; rw [if_neg (by decide), if_pos (by decide)]
  have e2 : px 179 u M D m = (upd u 4 4, M, D, m) := by
    unfold px; rw [if_neg (by decide), if_neg (by decide), if_neg (by decide)]
  rw [e1, e2]
  show ER r d t ((4, r, k, M, D)) ((upd u 4 4, M, D, m))
  exact er_ill hM hD hK h (Or.inr (Or.inr (Or.inr rfl)))
theorem cr_180 : CR 180 := by
  intro r k u M D m d t ho he hm hK hM hD h
  have e1 : pz 180 r k M D = f_P_executeG0 180 5 (f_P_fetch 5 r k M D).1 (f_P_fetch 5 r k M D).2 M D := by
    unfold pz; rw [if_neg (by decide), if_neg (by decide), if_neg (by decide), if_neg (by decide), show f_P_modeOf 180 = 5 from by decide]
  have e2 : px 180 u M D m = f_X_tests 5 5 180 u M D m := by
    unfold px; rw [if_neg (by decide), if_neg (by decide), if_pos (by decide), show (180 : Int32) / 32 = 5 from by decide, show (180 : Int32) / 4 - 180 / 4 / 8 * 8 = 5 from by decide]
  rw [e1, e2]
  show ER r d t ((0, upd (f_P_set (f_P_operand 5 (f_P_fetch 5 r k M D).1 (f_P_fetch 5 r k M D).2 M D).1 (f_P_fetch 5 r k M D).1).2 2 (f_P_set (f_P_operand 5 (f_P_fetch 5 r k M D).1 (f_P_fetch 5 r k M D).2 M D).1 (f_P_fetch 5 r k M D).1).1, (f_P_operand 5 (f_P_fetch 5 r k M D).1 (f_P_fetch 5 r k M D).2 M D).2, M, D)) (((f_X_operand 2 (f_X_address 2 u M m).1 (f_X_address 2 u M m).2.1 M (f_X_address 2 u M m).2.2).2, M, D, f_X_put3 2 (f_X_operand 2 (f_X_address 2 u M m).1 (f_X_address 2 u M m).2.1 M (f_X_address 2 u M m).2.2).1 1 (f_X_operand 2 (f_X_address 2 u M m).1 (f_X_address 2 u M m).2.1 M (f_X_address 2 u M m).2.2).2 (f_X_address 2 u M m).2.2))
  exact ld_rel2 ho hM hD (Or.inr (Or.inr ⟨by decide, by decide, by decide, by decide⟩)) (fr_ZEROX he hK hM h hm)
theorem cr_181 : CR 181 := by
  intro r k u M D m d t ho he hm hK hM hD h
  have e1 : pz 181 r k M D = f_P_executeG1 5 5 (f_P_fetch 5 r k M D).1 (f_P_fetch 5 r k M D).2 M D := by
    unfold pz; rw [if_neg (by decide), if_neg (by decide), if_pos (by decide), show (181 : Int32) / 32 = 5 from by decide, show f_P_modeOf 181 = 5 from by decide]
  have e2 : px 181 u M D m = f_X_sums_k1 5 5 u M D m (f_X_address 2 u M m) := by
    unfold px; rw [if_pos (by decide), show (181 : Int32) / 32 = 5 from by decide, show (181 : Int32) / 4 - 181 / 4 / 8 * 8 = 5 from by decide]; unfold f_X_sums; rw [if_neg (by decide), show f_X_mode1 5 = 2 from by decide]
  rw [e1, e2]
  show ER r d t (f_P_executeG1 5 5 (f_P_fetch 5 r k M D).1 (f_P_fetch 5 r k M D).2 M D) (f_X_sums_k1 5 5 u M D m (f_X_address 2 u M m))
  exact g1_rel (xm := 2) ho hM hD (Or.inr (Or.inr ⟨by decide, by decide, by decide, by decide⟩)) (by decide) (fr_ZEROX he hK hM h hm) (Or.inr (Or.inr (Or.inr (Or.inr (Or.inl rfl)))))
theorem cr_182 : CR 182 := by
  intro r k u M D m d t ho he hm hK hM hD h
  have e1 : pz 182 r k M D = f_P_executeG2 5 8 (f_P_fetch 8 r k M D).1 (f_P_fetch 8 r k M D).2 M D := by
    unfold pz; rw [if_neg (by decide), if_neg (by decide), if_neg (by decide), if_pos (by decide), show (182 : Int32) / 32 = 5 from by decide, show f_P_modeOf 182 = 8 from by decide]
  have e2 : px 182 u M D m = f_X_moves 5 5 u M D m := by
    unfold px; rw [if_neg (by decide), if_pos (by decide), if_neg (by decide), if_pos (by decide), show (182 : Int32) / 32 = 5 from by decide, show (182 : Int32) / 4 - 182 / 4 / 8 * 8 = 5 from by decide]
  rw [e1, e2]
  show ER r d t ((0, upd (f_P_set (f_P_operand 8 (f_P_fetch 8 r k M D).1 (f_P_fetch 8 r k M D).2 M D).1 (f_P_fetch 8 r k M D).1).2 1 (f_P_set (f_P_operand 8 (f_P_fetch 8 r k M D).1 (f_P_fetch 8 r k M D).2 M D).1 (f_P_fetch 8 r k M D).1).1, (f_P_operand 8 (f_P_fetch 8 r k M D).1 (f_P_fetch 8 r k M D).2 M D).2, M, D)) (((f_X_operand 3 (f_X_address 3 u M m).1 (f_X_address 3 u M m).2.1 M (f_X_address 3 u M m).2.2).2, M, D, f_X_put3 1 (f_X_operand 3 (f_X_address 3 u M m).1 (f_X_address 3 u M m).2.1 M (f_X_address 3 u M m).2.2).1 1 (f_X_operand 3 (f_X_address 3 u M m).1 (f_X_address 3 u M m).2.1 M (f_X_address 3 u M m).2.2).2 (f_X_address 3 u M m).2.2))
  exact ld_rel1 ho hM hD (Or.inr (Or.inr ⟨by decide, by decide, by decide, by decide⟩)) (fr_ZEROY he hK hM h hm)
theorem cr_183 : CR 183 := by
  intro r k u M D m d t ho he hm hK hM hD h
  have e1 : pz 183 r k M D = (4, r, k, M, D) := by
    unfold pz; rw [if_neg (by decide), if_pos (by decide)]
  have e2 : px 183 u M D m = (upd u 4 4, M, D, m) := by
    unfold px; rw [if_neg (by decide), if_neg (by decide), if_neg (by decide)]
  rw [e1, e2]
  show ER r d t ((4, r, k, M, D)) ((upd u 4 4, M, D, m))
  exact er_ill hM hD hK h (Or.inr (Or.inr (Or.inr rfl)))
theorem cr_184 : CR 184 := by
  intro r k u M D m d t ho he hm hK hM hD h
  have e1 : pz 184 r k M D = f_P_executeG0 184 10 (f_P_fetch 10 r k M D).1 (f_P_fetch 10 r k M D).2 M D := by
    unfold pz; rw [if_neg (by decide), if_neg (by decide), if_neg (by decide), if_neg (by decide), show f_P_modeOf 184 = 10 from by decide]
  have e2 : px 184 u M D m = f_X_tests 5 6 184 u M D m := by
    unfold px; rw [if_neg (by decide), if_neg (by decide), if_pos (by decide), show (184 : Int32) / 32 = 5 from by decide, show (184 : Int32) / 4 - 184 / 4 / 8 * 8 = 6 from by decide]
  rw [e1, e2]
  show ER r d t ((0, upd (f_P_fetch 10 r k M D).1 6 0, (f_P_fetch 10 r k M D).2, M, D)) ((u, M, D, upd m 6 0))
  exact ER.plain hM hD h hK (rr_u6 (rr_ALONE he ho hm).1 (Or.inl rfl))
theorem cr_185 : CR 185 := by
  intro r k u M D m d t ho he hm hK hM hD h
  have e1 : pz 185 r k M D = f_P_executeG1 5 6 (f_P_fetch 6 r k M D).1 (f_P_fetch 6 r k M D).2 M D := by
    unfold pz; rw [if_neg (by decide), if_neg (by decide), if_pos (by decide), show (185 : Int32) / 32 = 5 from by decide, show f_P_modeOf 185 = 6 from by decide]
  have e2 : px 185 u M D m = f_X_sums_k1 5 6 u M D m (f_X_address 6 u M m) := by
    unfold px; rw [if_pos (by decide), show (185 : Int32) / 32 = 5 from by decide, show (185 : Int32) / 4 - 185 / 4 / 8 * 8 = 6 from by decide]; unfold f_X_sums; rw [if_neg (by decide), show f_X_mode1 6 = 6 from by decide]
  rw [e1, e2]
  show ER r d t (f_P_executeG1 5 6 (f_P_fetch 6 r k M D).1 (f_P_fetch 6 r k M D).2 M D) (f_X_sums_k1 5 6 u M D m (f_X_address 6 u M m))
  exact g1_rel (xm := 6) ho hM hD (Or.inr (Or.inr ⟨by decide, by decide, by decide, by decide⟩)) (by decide) (fr_WIDEY he hK hM h hm) (Or.inr (Or.inr (Or.inr (Or.inr (Or.inl rfl)))))
theorem cr_186 : CR 186 := by
  intro r k u M D m d t ho he hm hK hM hD h
  have e1 : pz 186 r k M D = f_P_executeG2 5 10 (f_P_fetch 10 r k M D).1 (f_P_fetch 10 r k M D).2 M D := by
    unfold pz; rw [if_neg (by decide), if_neg (by decide), if_neg (by decide), if_pos (by decide), show (186 : Int32) / 32 = 5 from by decide, show f_P_modeOf 186 = 10 from by decide]
  have e2 : px 186 u M D m = f_X_moves 5 6 u M D m := by
    unfold px; rw [if_neg (by decide), if_pos (by decide), if_neg (by decide), if_pos (by decide), show (186 : Int32) / 32 = 5 from by decide, show (186 : Int32) / 4 - 186 / 4 / 8 * 8 = 6 from by decide]
  rw [e1, e2]
  show ER r d t ((0, upd (f_P_set ((f_P_fetch 10 r k M D).1 3) (f_P_fetch 10 r k M D).1).2 1 (f_P_set ((f_P_fetch 10 r k M D).1 3) (f_P_fetch 10 r k M D).1).1, (f_P_fetch 10 r k M D).2, M, D)) ((u, M, D, f_X_put3 1 (m 3) 1 u m))
  exact ER.plain hM hD h hK (put_rel1 (rr_ALONE he ho hm).1 (by rw [(rr_ALONE he ho hm).1.1.2.2.2.1]; exact isB_and (rr_ALONE he ho hm).1.2.1.2.2.2.1))
theorem cr_187 : CR 187 := by
  intro r k u M D m d t ho he hm hK hM hD h
  have e1 : pz 187 r k M D = (4, r, k, M, D) := by
    unfold pz; rw [if_neg (by decide), if_pos (by decide)]
  have e2 : px 187 u M D m = (upd u 4 4, M, D, m) := by
    unfold px; rw [if_neg (by decide), if_neg (by decide), if_neg (by decide)]
  rw [e1, e2]
  show ER r d t ((4, r, k, M, D)) ((upd u 4 4, M, D, m))
  exact er_ill hM hD hK h (Or.inr (Or.inr (Or.inr rfl)))
theorem cr_188 : CR 188 := by
  intro r k u M D m d t ho he hm hK hM hD h
  have e1 : pz 188 r k M D = f_P_executeG0 188 7 (f_P_fetch 7 r k M D).1 (f_P_fetch 7 r k M D).2 M D := by
    unfold pz; rw [if_neg (by decide), if_neg (by decide), if_neg (by decide), if_neg (by decide), show f_P_modeOf 188 = 7 from by decide]
  have e2 : px 188 u M D m = f_X_tests 5 7 188 u M D m := by
    unfold px; rw [if_neg (by decide), if_neg (by decide), if_pos (by decide), show (188 : Int32) / 32 = 5 from by decide, show (188 : Int32) / 4 - 188 / 4 / 8 * 8 = 7 from by decide]
  rw [e1, e2]
  show ER r d t ((0, upd (f_P_set (f_P_operand 7 (f_P_fetch 7 r k M D).1 (f_P_fetch 7 r k M D).2 M D).1 (f_P_fetch 7 r k M D).1).2 2 (f_P_set (f_P_operand 7 (f_P_fetch 7 r k M D).1 (f_P_fetch 7 r k M D).2 M D).1 (f_P_fetch 7 r k M D).1).1, (f_P_operand 7 (f_P_fetch 7 r k M D).1 (f_P_fetch 7 r k M D).2 M D).2, M, D)) (((f_X_operand 5 (f_X_address 5 u M m).1 (f_X_address 5 u M m).2.1 M (f_X_address 5 u M m).2.2).2, M, D, f_X_put3 2 (f_X_operand 5 (f_X_address 5 u M m).1 (f_X_address 5 u M m).2.1 M (f_X_address 5 u M m).2.2).1 1 (f_X_operand 5 (f_X_address 5 u M m).1 (f_X_address 5 u M m).2.1 M (f_X_address 5 u M m).2.2).2 (f_X_address 5 u M m).2.2))
  exact ld_rel2 ho hM hD (Or.inr (Or.inr ⟨by decide, by decide, by decide, by decide⟩)) (fr_WIDEX he hK hM h hm)
theorem cr_189 : CR 189 := by
  intro r k u M D m d t ho he hm hK hM hD h
  have e1 : pz 189 r k M D = f_P_executeG1 5 7 (f_P_fetch 7 r k M D).1 (f_P_fetch 7 r k M D).2 M D := by
    unfold pz; rw [if_neg (by decide), if_neg (by decide), if_pos (by decide), show (189 : Int32) / 32 = 5 from by decide, show f_P_modeOf 189 = 7 from by decide]
  have e2 : px 189 u M D m = f_X_sums_k1 5 7 u M D m (f_X_address 5 u M m) := by
    unfold px; rw [if_pos (by decide), show (189 : Int32) / 32 = 5 from by decide, show (189 : Int32) / 4 - 189 / 4 / 8 * 8 = 7 from by decide]; unfold f_X_sums; rw [if_neg (by decide), show f_X_mode1 7 = 5 from by decide]
  rw [e1, e2]
  show ER r d t (f_P_executeG1 5 7 (f_P_fetch 7 r k M D).1 (f_P_fetch 7 r k M D).2 M D) (f_X_sums_k1 5 7 u M D m (f_X_address 5 u M m))
  exact g1_rel (xm := 5) ho hM hD (Or.inr (Or.inr ⟨by decide, by decide, by decide, by decide⟩)) (by decide) (fr_WIDEX he hK hM h hm) (Or.inr (Or.inr (Or.inr (Or.inr (Or.inl rfl)))))
theorem cr_190 : CR 190 := by
  intro r k u M D m d t ho he hm hK hM hD h
  have e1 : pz 190 r k M D = f_P_executeG2 5 6 (f_P_fetch 6 r k M D).1 (f_P_fetch 6 r k M D).2 M D := by
    unfold pz; rw [if_neg (by decide), if_neg (by decide), if_neg (by decide), if_pos (by decide), show (190 : Int32) / 32 = 5 from by decide, show f_P_modeOf 190 = 6 from by decide]
  have e2 : px 190 u M D m = f_X_moves 5 7 u M D m := by
    unfold px; rw [if_neg (by decide), if_pos (by decide), if_neg (by decide), if_pos (by decide), show (190 : Int32) / 32 = 5 from by decide, show (190 : Int32) / 4 - 190 / 4 / 8 * 8 = 7 from by decide]
  rw [e1, e2]
  show ER r d t ((0, upd (f_P_set (f_P_operand 6 (f_P_fetch 6 r k M D).1 (f_P_fetch 6 r k M D).2 M D).1 (f_P_fetch 6 r k M D).1).2 1 (f_P_set (f_P_operand 6 (f_P_fetch 6 r k M D).1 (f_P_fetch 6 r k M D).2 M D).1 (f_P_fetch 6 r k M D).1).1, (f_P_operand 6 (f_P_fetch 6 r k M D).1 (f_P_fetch 6 r k M D).2 M D).2, M, D)) (((f_X_operand 6 (f_X_address 6 u M m).1 (f_X_address 6 u M m).2.1 M (f_X_address 6 u M m).2.2).2, M, D, f_X_put3 1 (f_X_operand 6 (f_X_address 6 u M m).1 (f_X_address 6 u M m).2.1 M (f_X_address 6 u M m).2.2).1 1 (f_X_operand 6 (f_X_address 6 u M m).1 (f_X_address 6 u M m).2.1 M (f_X_address 6 u M m).2.2).2 (f_X_address 6 u M m).2.2))
  exact ld_rel1 ho hM hD (Or.inr (Or.inr ⟨by decide, by decide, by decide, by decide⟩)) (fr_WIDEY he hK hM h hm)
theorem cr_191 : CR 191 := by
  intro r k u M D m d t ho he hm hK hM hD h
  have e1 : pz 191 r k M D = (4, r, k, M, D) := by
    unfold pz; rw [if_neg (by decide), if_pos (by decide)]
  have e2 : px 191 u M D m = (upd u 4 4, M, D, m) := by
    unfold px; rw [if_neg (by decide), if_neg (by decide), if_neg (by decide)]
  rw [e1, e2]
  show ER r d t ((4, r, k, M, D)) ((upd u 4 4, M, D, m))
  exact er_ill hM hD hK h (Or.inr (Or.inr (Or.inr rfl)))
theorem cr_192 : CR 192 := by
  intro r k u M D m d t ho he hm hK hM hD h
  have e1 : pz 192 r k M D = f_P_executeG0 192 2 (f_P_fetch 2 r k M D).1 (f_P_fetch 2 r k M D).2 M D := by
    unfold pz; rw [if_neg (by decide), if_neg (by decide), if_neg (by decide), if_neg (by decide), show f_P_modeOf 192 = 2 from by decide]
  have e2 : px 192 u M D m = f_X_tests 6 0 192 u M D m := by
    unfold px; rw [if_neg (by decide), if_neg (by decide), if_pos (by decide), show (192 : Int32) / 32 = 6 from by decide, show (192 : Int32) / 4 - 192 / 4 / 8 * 8 = 0 from by decide]
  rw [e1, e2]
  show ER r d t ((0, f_P_compare ((f_P_fetch 2 r k M D).1 2) (f_P_operand 2 (f_P_fetch 2 r k M D).1 (f_P_fetch 2 r k M D).2 M D).1 (f_P_fetch 2 r k M D).1, (f_P_operand 2 (f_P_fetch 2 r k M D).1 (f_P_fetch 2 r k M D).2 M D).2, M, D)) (((f_X_operand 0 (f_X_address 0 u M m).1 (f_X_address 0 u M m).2.1 M (f_X_address 0 u M m).2.2).2, M, D, f_X_compare ((f_X_address 0 u M m).2.2 2) (f_X_operand 0 (f_X_address 0 u M m).1 (f_X_address 0 u M m).2.1 M (f_X_address 0 u M m).2.2).1 (f_X_operand 0 (f_X_address 0 u M m).1 (f_X_address 0 u M m).2.1 M (f_X_address 0 u M m).2.2).2 (f_X_address 0 u M m).2.2))
  exact cp_rel ho hM hD (Or.inl ⟨rfl, rfl⟩) (fr_NEXT he hK hM h hm) ((fr_NEXT he hK hM h hm).rr ho).1.2.2.1
theorem cr_193 : CR 193 := by
  intro r k u M D m d t ho he hm hK hM hD h
  have e1 : pz 193 r k M D = f_P_executeG1 6 0 (f_P_fetch 0 r k M D).1 (f_P_fetch 0 r k M D).2 M D := by
    unfold pz; rw [if_neg (by decide), if_neg (by decide), if_pos (by decide), show (193 : Int32) / 32 = 6 from by decide, show f_P_modeOf 193 = 0 from by decide]
  have e2 : px 193 u M D m = f_X_sums_k1 6 0 u M D m (f_X_address 7 u M m) := by
    unfold px; rw [if_pos (by decide), show (193 : Int32) / 32 = 6 from by decide, show (193 : Int32) / 4 - 193 / 4 / 8 * 8 = 0 from by decide]; unfold f_X_sums; rw [if_neg (by decide), show f_X_mode1 0 = 7 from by decide]
  rw [e1, e2]
  show ER r d t (f_P_executeG1 6 0 (f_P_fetch 0 r k M D).1 (f_P_fetch 0 r k M D).2 M D) (f_X_sums_k1 6 0 u M D m (f_X_address 7 u M m))
  exact g1_rel (xm := 7) ho hM hD (Or.inr (Or.inr ⟨by decide, by decide, by decide, by decide⟩)) (by decide) (fr_INX he hK hM h hm) (Or.inr (Or.inr (Or.inr (Or.inr (Or.inr (Or.inl rfl))))))
theorem cr_194 : CR 194 := by
  intro r k u M D m d t ho he hm hK hM hD h
  have e1 : pz 194 r k M D = (4, r, k, M, D) := by
    unfold pz; rw [if_neg (by decide), if_pos (by decide)]
  have e2 : px 194 u M D m = f_X_changes 6 0 u M D m := by
    unfold px; rw [if_neg (by decide), if_pos (by decide), if_neg (by decide), if_neg (by decide), show (194 : Int32) / 32 = 6 from by decide, show (194 : Int32) / 4 - 194 / 4 / 8 * 8 = 0 from by decide]
  rw [e1, e2]
  show ER r d t ((4, r, k, M, D)) ((upd u 4 4, M, D, m))
  exact er_ill hM hD hK h (Or.inr (Or.inr (Or.inr rfl)))
theorem cr_195 : CR 195 := by
  intro r k u M D m d t ho he hm hK hM hD h
  have e1 : pz 195 r k M D = (4, r, k, M, D) := by
    unfold pz; rw [if_neg (by decide), if_pos (by decide)]
  have e2 : px 195 u M D m = (upd u 4 4, M, D, m) := by
    unfold px; rw [if_neg (by decide), if_neg (by decide), if_neg (by decide)]
  rw [e1, e2]
  show ER r d t ((4, r, k, M, D)) ((upd u 4 4, M, D, m))
  exact er_ill hM hD hK h (Or.inr (Or.inr (Or.inr rfl)))
theorem cr_196 : CR 196 := by
  intro r k u M D m d t ho he hm hK hM hD h
  have e1 : pz 196 r k M D = f_P_executeG0 196 1 (f_P_fetch 1 r k M D).1 (f_P_fetch 1 r k M D).2 M D := by
    unfold pz; rw [if_neg (by decide), if_neg (by decide), if_neg (by decide), if_neg (by decide), show f_P_modeOf 196 = 1 from by decide]
  have e2 : px 196 u M D m = f_X_tests 6 1 196 u M D m := by
    unfold px; rw [if_neg (by decide), if_neg (by decide), if_pos (by decide), show (196 : Int32) / 32 = 6 from by decide, show (196 : Int32) / 4 - 196 / 4 / 8 * 8 = 1 from by decide]
  rw [e1, e2]
  show ER r d t ((0, f_P_compare ((f_P_fetch 1 r k M D).1 2) (f_P_operand 1 (f_P_fetch 1 r k M D).1 (f_P_fetch 1 r k M D).2 M D).1 (f_P_fetch 1 r k M D).1, (f_P_operand 1 (f_P_fetch 1 r k M D).1 (f_P_fetch 1 r k M D).2 M D).2, M, D)) (((f_X_operand 1 (f_X_address 1 u M m).1 (f_X_address 1 u M m).2.1 M (f_X_address 1 u M m).2.2).2, M, D, f_X_compare ((f_X_address 1 u M m).2.2 2) (f_X_operand 1 (f_X_address 1 u M m).1 (f_X_address 1 u M m).2.1 M (f_X_address 1 u M m).2.2).1 (f_X_operand 1 (f_X_address 1 u M m).1 (f_X_address 1 u M m).2.1 M (f_X_address 1 u M m).2.2).2 (f_X_address 1 u M m).2.2))
  exact cp_rel ho hM hD (Or.inr (Or.inr ⟨by decide, by decide, by decide, by decide⟩)) (fr_ZERO he hK hM h hm) ((fr_ZERO he hK hM h hm).rr ho).1.2.2.1
theorem cr_197 : CR 197 := by
  intro r k u M D m d t ho he hm hK hM hD h
  have e1 : pz 197 r k M D = f_P_executeG1 6 1 (f_P_fetch 1 r k M D).1 (f_P_fetch 1 r k M D).2 M D := by
    unfold pz; rw [if_neg (by decide), if_neg (by decide), if_pos (by decide), show (197 : Int32) / 32 = 6 from by decide, show f_P_modeOf 197 = 1 from by decide]
  have e2 : px 197 u M D m = f_X_sums_k1 6 1 u M D m (f_X_address 1 u M m) := by
    unfold px; rw [if_pos (by decide), show (197 : Int32) / 32 = 6 from by decide, show (197 : Int32) / 4 - 197 / 4 / 8 * 8 = 1 from by decide]; unfold f_X_sums; rw [if_neg (by decide), show f_X_mode1 1 = 1 from by decide]
  rw [e1, e2]
  show ER r d t (f_P_executeG1 6 1 (f_P_fetch 1 r k M D).1 (f_P_fetch 1 r k M D).2 M D) (f_X_sums_k1 6 1 u M D m (f_X_address 1 u M m))
  exact g1_rel (xm := 1) ho hM hD (Or.inr (Or.inr ⟨by decide, by decide, by decide, by decide⟩)) (by decide) (fr_ZERO he hK hM h hm) (Or.inr (Or.inr (Or.inr (Or.inr (Or.inr (Or.inl rfl))))))
theorem cr_198 : CR 198 := by
  intro r k u M D m d t ho he hm hK hM hD h
  have e1 : pz 198 r k M D = f_P_executeG2 6 1 (f_P_fetch 1 r k M D).1 (f_P_fetch 1 r k M D).2 M D := by
    unfold pz; rw [if_neg (by decide), if_neg (by decide), if_neg (by decide), if_pos (by decide), show (198 : Int32) / 32 = 6 from by decide, show f_P_modeOf 198 = 1 from by decide]
  have e2 : px 198 u M D m = f_X_changes 6 1 u M D m := by
    unfold px; rw [if_neg (by decide), if_pos (by decide), if_neg (by decide), if_neg (by decide), show (198 : Int32) / 32 = 6 from by decide, show (198 : Int32) / 4 - 198 / 4 / 8 * 8 = 1 from by decide]
  rw [e1, e2]
  show ER r d t (f_P_change 6 1 (f_P_fetch 1 r k M D).1 (f_P_fetch 1 r k M D).2 M D) (f_X_changes_k16 6 1 u M D m (f_X_address 1 u M m))
  exact chg_rel ho hM hD (xm := 1) ⟨by decide, by decide, by decide, by decide⟩ (fr_ZERO he hK hM h hm) (Or.inr (Or.inr (Or.inr (Or.inr (Or.inl rfl))))) rfl
theorem cr_199 : CR 199 := by
  intro r k u M D m d t ho he hm hK hM hD h
  have e1 : pz 199 r k M D = (4, r, k, M, D) := by
    unfold pz; rw [if_neg (by decide), if_pos (by decide)]
  have e2 : px 199 u M D m = (upd u 4 4, M, D, m) := by
    unfold px; rw [if_neg (by decide), if_neg (by decide), if_neg (by decide)]
  rw [e1, e2]
  show ER r d t ((4, r, k, M, D)) ((upd u 4 4, M, D, m))
  exact er_ill hM hD hK h (Or.inr (Or.inr (Or.inr rfl)))
theorem cr_200 : CR 200 := by
  intro r k u M D m d t ho he hm hK hM hD h
  have e1 : pz 200 r k M D = f_P_executeG0 200 10 (f_P_fetch 10 r k M D).1 (f_P_fetch 10 r k M D).2 M D := by
    unfold pz; rw [if_neg (by decide), if_neg (by decide), if_neg (by decide), if_neg (by decide), show f_P_modeOf 200 = 10 from by decide]
  have e2 : px 200 u M D m = f_X_tests 6 2 200 u M D m := by
    unfold px; rw [if_neg (by decide), if_neg (by decide), if_pos (by decide), show (200 : Int32) / 32 = 6 from by decide, show (200 : Int32) / 4 - 200 / 4 / 8 * 8 = 2 from by decide]
  rw [e1, e2]
  show ER r d t ((0, upd (f_P_set (((f_P_fetch 10 r k M D).1 2 + 1) &&& 255) (f_P_fetch 10 r k M D).1).2 2 (f_P_set (((f_P_fetch 10 r k M D).1 2 + 1) &&& 255) (f_P_fetch 10 r k M D).1).1, (f_P_fetch 10 r k M D).2, M, D)) ((u, M, D, f_X_put3 2 (m 2 + 1) 1 u m))
  exact ER.plain hM hD h hK (put_rel2 (rr_ALONE he ho hm).1 (by rw [(rr_ALONE he ho hm).1.1.2.2.1]))
theorem cr_201 : CR 201 := by
  intro r k u M D m d t ho he hm hK hM hD h
  have e1 : pz 201 r k M D = f_P_executeG1 6 2 (f_P_fetch 2 r k M D).1 (f_P_fetch 2 r k M D).2 M D := by
    unfold pz; rw [if_neg (by decide), if_neg (by decide), if_pos (by decide), show (201 : Int32) / 32 = 6 from by decide, show f_P_modeOf 201 = 2 from by decide]
  have e2 : px 201 u M D m = f_X_sums_k1 6 2 u M D m (f_X_address 0 u M m) := by
    unfold px; rw [if_pos (by decide), show (201 : Int32) / 32 = 6 from by decide, show (201 : Int32) / 4 - 201 / 4 / 8 * 8 = 2 from by decide]; unfold f_X_sums; rw [if_neg (by decide), show f_X_mode1 2 = 0 from by decide]
  rw [e1, e2]
  show ER r d t (f_P_executeG1 6 2 (f_P_fetch 2 r k M D).1 (f_P_fetch 2 r k M D).2 M D) (f_X_sums_k1 6 2 u M D m (f_X_address 0 u M m))
  exact g1_rel (xm := 0) ho hM hD (Or.inl ⟨rfl, rfl⟩) (by decide) (fr_NEXT he hK hM h hm) (Or.inr (Or.inr (Or.inr (Or.inr (Or.inr (Or.inl rfl))))))
theorem cr_202 : CR 202 := by
  intro r k u M D m d t ho he hm hK hM hD h
  have e1 : pz 202 r k M D = f_P_executeG2 6 9 (f_P_fetch 9 r k M D).1 (f_P_fetch 9 r k M D).2 M D := by
    unfold pz; rw [if_neg (by decide), if_neg (by decide), if_neg (by decide), if_pos (by decide), show (202 : Int32) / 32 = 6 from by decide, show f_P_modeOf 202 = 9 from by decide]
  have e2 : px 202 u M D m = f_X_changes 6 2 u M D m := by
    unfold px; rw [if_neg (by decide), if_pos (by decide), if_neg (by decide), if_neg (by decide), show (202 : Int32) / 32 = 6 from by decide, show (202 : Int32) / 4 - 202 / 4 / 8 * 8 = 2 from by decide]
  rw [e1, e2]
  show ER r d t ((0, upd (f_P_set (((f_P_fetch 9 r k M D).1 1 - 1) &&& 255) (f_P_fetch 9 r k M D).1).2 1 (f_P_set (((f_P_fetch 9 r k M D).1 1 - 1) &&& 255) (f_P_fetch 9 r k M D).1).1, (f_P_fetch 9 r k M D).2, M, D)) ((u, M, D, f_X_put3 1 (m 1 - 1) 1 u m))
  exact ER.plain hM hD h hK (put_rel1 (rr_SELF he ho hm) (by rw [(rr_SELF he ho hm).1.2.1]))
theorem cr_203 : CR 203 := by
  intro r k u M D m d t ho he hm hK hM hD h
  have e1 : pz 203 r k M D = (4, r, k, M, D) := by
    unfold pz; rw [if_neg (by decide), if_pos (by decide)]
  have e2 : px 203 u M D m = (upd u 4 4, M, D, m) := by
    unfold px; rw [if_neg (by decide), if_neg (by decide), if_neg (by decide)]
  rw [e1, e2]
  show ER r d t ((4, r, k, M, D)) ((upd u 4 4, M, D, m))
  exact er_ill hM hD hK h (Or.inr (Or.inr (Or.inr rfl)))
theorem cr_204 : CR 204 := by
  intro r k u M D m d t ho he hm hK hM hD h
  have e1 : pz 204 r k M D = f_P_executeG0 204 3 (f_P_fetch 3 r k M D).1 (f_P_fetch 3 r k M D).2 M D := by
    unfold pz; rw [if_neg (by decide), if_neg (by decide), if_neg (by decide), if_neg (by decide), show f_P_modeOf 204 = 3 from by decide]
  have e2 : px 204 u M D m = f_X_tests 6 3 204 u M D m := by
    unfold px; rw [if_neg (by decide), if_neg (by decide), if_pos (by decide), show (204 : Int32) / 32 = 6 from by decide, show (204 : Int32) / 4 - 204 / 4 / 8 * 8 = 3 from by decide]
  rw [e1, e2]
  show ER r d t ((0, f_P_compare ((f_P_fetch 3 r k M D).1 2) (f_P_operand 3 (f_P_fetch 3 r k M D).1 (f_P_fetch 3 r k M D).2 M D).1 (f_P_fetch 3 r k M D).1, (f_P_operand 3 (f_P_fetch 3 r k M D).1 (f_P_fetch 3 r k M D).2 M D).2, M, D)) (((f_X_operand 4 (f_X_address 4 u M m).1 (f_X_address 4 u M m).2.1 M (f_X_address 4 u M m).2.2).2, M, D, f_X_compare ((f_X_address 4 u M m).2.2 2) (f_X_operand 4 (f_X_address 4 u M m).1 (f_X_address 4 u M m).2.1 M (f_X_address 4 u M m).2.2).1 (f_X_operand 4 (f_X_address 4 u M m).1 (f_X_address 4 u M m).2.1 M (f_X_address 4 u M m).2.2).2 (f_X_address 4 u M m).2.2))
  exact cp_rel ho hM hD (Or.inr (Or.inr ⟨by decide, by decide, by decide, by decide⟩)) (fr_WIDE he hK hM h hm) ((fr_WIDE he hK hM h hm).rr ho).1.2.2.1
theorem cr_205 : CR 205 := by
  intro r k u M D m d t ho he hm hK hM hD h
  have e1 : pz 205 r k M D = f_P_executeG1 6 3 (f_P_fetch 3 r k M D).1 (f_P_fetch 3 r k M D).2 M D := by
    unfold pz; rw [if_neg (by decide), if_neg (by decide), if_pos (by decide), show (205 : Int32) / 32 = 6 from by decide, show f_P_modeOf 205 = 3 from by decide]
  have e2 : px 205 u M D m = f_X_sums_k1 6 3 u M D m (f_X_address 4 u M m) := by
    unfold px; rw [if_pos (by decide), show (205 : Int32) / 32 = 6 from by decide, show (205 : Int32) / 4 - 205 / 4 / 8 * 8 = 3 from by decide]; unfold f_X_sums; rw [if_neg (by decide), show f_X_mode1 3 = 4 from by decide]
  rw [e1, e2]
  show ER r d t (f_P_executeG1 6 3 (f_P_fetch 3 r k M D).1 (f_P_fetch 3 r k M D).2 M D) (f_X_sums_k1 6 3 u M D m (f_X_address 4 u M m))
  exact g1_rel (xm := 4) ho hM hD (Or.inr (Or.inr ⟨by decide, by decide, by decide, by decide⟩)) (by decide) (fr_WIDE he hK hM h hm) (Or.inr (Or.inr (Or.inr (Or.inr (Or.inr (Or.inl rfl))))))
theorem cr_206 : CR 206 := by
  intro r k u M D m d t ho he hm hK hM hD h
  have e1 : pz 206 r k M D = f_P_executeG2 6 3 (f_P_fetch 3 r k M D).1 (f_P_fetch 3 r k M D).2 M D := by
    unfold pz; rw [if_neg (by decide), if_neg (by decide), if_neg (by decide), if_pos (by decide), show (206 : Int32) / 32 = 6 from by decide, show f_P_modeOf 206 = 3 from by decide]
  have e2 : px 206 u M D m = f_X_changes 6 3 u M D m := by
    unfold px; rw [if_neg (by decide), if_pos (by decide), if_neg (by decide), if_neg (by decide), show (206 : Int32) / 32 = 6 from by decide, show (206 : Int32) / 4 - 206 / 4 / 8 * 8 = 3 from by decide]
  rw [e1, e2]
  show ER r d t (f_P_change 6 3 (f_P_fetch 3 r k M D).1 (f_P_fetch 3 r k M D).2 M D) (f_X_changes_k11 6 3 u M D m (f_X_address 4 u M m))
  exact chg_rel ho hM hD (xm := 4) ⟨by decide, by decide, by decide, by decide⟩ (fr_WIDE he hK hM h hm) (Or.inr (Or.inr (Or.inr (Or.inr (Or.inl rfl))))) rfl
theorem cr_207 : CR 207 := by
  intro r k u M D m d t ho he hm hK hM hD h
  have e1 : pz 207 r k M D = (4, r, k, M, D) := by
    unfold pz; rw [if_neg (by decide), if_pos (by decide)]
  have e2 : px 207 u M D m = (upd u 4 4, M, D, m) := by
    unfold px; rw [if_neg (by decide), if_neg (by decide), if_neg (by decide)]
  rw [e1, e2]
  show ER r d t ((4, r, k, M, D)) ((upd u 4 4, M, D, m))
  exact er_ill hM hD hK h (Or.inr (Or.inr (Or.inr rfl)))
theorem cr_208 : CR 208 := by
  intro r k u M D m d t ho he hm hK hM hD h
  have e1 : pz 208 r k M D = f_P_executeG0 208 2 (f_P_fetch 2 r k M D).1 (f_P_fetch 2 r k M D).2 M D := by
    unfold pz; rw [if_neg (by decide), if_neg (by decide), if_neg (by decide), if_neg (by decide), show f_P_modeOf 208 = 2 from by decide]
  have e2 : px 208 u M D m = f_X_tests 6 4 208 u M D m := by
    unfold px; rw [if_neg (by decide), if_neg (by decide), if_pos (by decide), show (208 : Int32) / 32 = 6 from by decide, show (208 : Int32) / 4 - 208 / 4 / 8 * 8 = 4 from by decide]
  rw [e1, e2]
  show ER r d t ((0, f_P_branch 6 (f_P_fetch 2 r k M D).1, (f_P_fetch 2 r k M D).2, M, D)) (f_X_tests_k18 6 4 208 u M D m (f_X_branch 6 u M m))
  exact br_rel ho hM hD (fr_NEXT he hK hM h hm) (Or.inr (Or.inr (Or.inr (Or.inr (Or.inr (Or.inr (Or.inl rfl)))))))
theorem cr_209 : CR 209 := by
  intro r k u M D m d t ho he hm hK hM hD h
  have e1 : pz 209 r k M D = f_P_executeG1 6 4 (f_P_fetch 4 r k M D).1 (f_P_fetch 4 r k M D).2 M D := by
    unfold pz; rw [if_neg (by decide), if_neg (by decide), if_pos (by decide), show (209 : Int32) / 32 = 6 from by decide, show f_P_modeOf 209 = 4 from by decide]
  have e2 : px 209 u M D m = f_X_sums_k1 6 4 u M D m (f_X_address 8 u M m) := by
    unfold px; rw [if_pos (by decide), show (209 : Int32) / 32 = 6 from by decide, show (209 : Int32) / 4 - 209 / 4 / 8 * 8 = 4 from by decide]; unfold f_X_sums; rw [if_neg (by decide), show f_X_mode1 4 = 8 from by decide]
  rw [e1, e2]
  show ER r d t (f_P_executeG1 6 4 (f_P_fetch 4 r k M D).1 (f_P_fetch 4 r k M D).2 M D) (f_X_sums_k1 6 4 u M D m (f_X_address 8 u M m))
  exact g1_rel (xm := 8) ho hM hD (Or.inr (Or.inr ⟨by decide, by decide, by decide, by decide⟩)) (by decide) (fr_INY he hK hM h hm) (Or.inr (Or.inr (Or.inr (Or.inr (Or.inr (Or.inl rfl))))))
theorem cr_210 : CR 210 := by
  intro r k u M D m d t ho he hm hK hM hD h
  have e1 : pz 210 r k M D = (4, r, k, M, D) := by
    unfold pz; rw [if_neg (by decide), if_pos (by decide)]
  have e2 : px 210 u M D m = f_X_changes 6 4 u M D m := by
    unfold px; rw [if_neg (by decide), if_pos (by decide), if_neg (by decide), if_neg (by decide), show (210 : Int32) / 32 = 6 from by decide, show (210 : Int32) / 4 - 210 / 4 / 8 * 8 = 4 from by decide]
  rw [e1, e2]
  show ER r d t ((4, r, k, M, D)) ((upd u 4 4, M, D, m))
  exact er_ill hM hD hK h (Or.inr (Or.inr (Or.inr rfl)))
theorem cr_211 : CR 211 := by
  intro r k u M D m d t ho he hm hK hM hD h
  have e1 : pz 211 r k M D = (4, r, k, M, D) := by
    unfold pz; rw [if_neg (by decide), if_pos (by decide)]
  have e2 : px 211 u M D m = (upd u 4 4, M, D, m) := by
    unfold px; rw [if_neg (by decide), if_neg (by decide), if_neg (by decide)]
  rw [e1, e2]
  show ER r d t ((4, r, k, M, D)) ((upd u 4 4, M, D, m))
  exact er_ill hM hD hK h (Or.inr (Or.inr (Or.inr rfl)))
theorem cr_212 : CR 212 := by
  intro r k u M D m d t ho he hm hK hM hD h
  have e1 : pz 212 r k M D = (4, r, k, M, D) := by
    unfold pz; rw [if_neg (by decide), if_pos (by decide)]
  have e2 : px 212 u M D m = f_X_tests 6 5 212 u M D m := by
    unfold px; rw [if_neg (by decide), if_neg (by decide), if_pos (by decide), show (212 : Int32) / 32 = 6 from by decide, show (212 : Int32) / 4 - 212 / 4 / 8 * 8 = 5 from by decide]
  rw [e1, e2]
  show ER r d t ((4, r, k, M, D)) ((upd u 4 4, M, D, m))
  exact er_ill hM hD hK h (Or.inr (Or.inr (Or.inr rfl)))
theorem cr_213 : CR 213 := by
  intro r k u M D m d t ho he hm hK hM hD h
  have e1 : pz 213 r k M D = f_P_executeG1 6 5 (f_P_fetch 5 r k M D).1 (f_P_fetch 5 r k M D).2 M D := by
    unfold pz; rw [if_neg (by decide), if_neg (by decide), if_pos (by decide), show (213 : Int32) / 32 = 6 from by decide, show f_P_modeOf 213 = 5 from by decide]
  have e2 : px 213 u M D m = f_X_sums_k1 6 5 u M D m (f_X_address 2 u M m) := by
    unfold px; rw [if_pos (by decide), show (213 : Int32) / 32 = 6 from by decide, show (213 : Int32) / 4 - 213 / 4 / 8 * 8 = 5 from by decide]; unfold f_X_sums; rw [if_neg (by decide), show f_X_mode1 5 = 2 from by decide]
  rw [e1, e2]
  show ER r d t (f_P_executeG1 6 5 (f_P_fetch 5 r k M D).1 (f_P_fetch 5 r k M D).2 M D) (f_X_sums_k1 6 5 u M D m (f_X_address 2 u M m))
  exact g1_rel (xm := 2) ho hM hD (Or.inr (Or.inr ⟨by decide, by decide, by decide, by decide⟩)) (by decide) (fr_ZEROX he hK hM h hm) (Or.inr (Or.inr (Or.inr (Or.inr (Or.inr (Or.inl rfl))))))
theorem cr_214 : CR 214 := by
  intro r k u M D m d t ho he hm hK hM hD h
  have e1 : pz 214 r k M D = f_P_executeG2 6 5 (f_P_fetch 5 r k M D).1 (f_P_fetch 5 r k M D).2 M D := by
    unfold pz; rw [if_neg (by decide), if_neg (by decide), if_neg (by decide), if_pos (by decide), show (214 : Int32) / 32 = 6 from by decide, show f_P_modeOf 214 = 5 from by decide]
  have e2 : px 214 u M D m = f_X_changes 6 5 u M D m := by
    unfold px; rw [if_neg (by decide), if_pos (by decide), if_neg (by decide), if_neg (by decide), show (214 : Int32) / 32 = 6 from by decide, show (214 : Int32) / 4 - 214 / 4 / 8 * 8 = 5 from by decide]
  rw [e1, e2]
  show ER r d t (f_P_change 6 5 (f_P_fetch 5 r k M D).1 (f_P_fetch 5 r k M D).2 M D) (f_X_changes_k6 6 5 u M D m (f_X_address 2 u M m))
  exact chg_rel ho hM hD (xm := 2) ⟨by decide, by decide, by decide, by decide⟩ (fr_ZEROX he hK hM h hm) (Or.inr (Or.inr (Or.inr (Or.inr (Or.inl rfl))))) rfl
theorem cr_215 : CR 215 := by
  intro r k u M D m d t ho he hm hK hM hD h
  have e1 : pz 215 r k M D = (4, r, k, M, D) := by
    unfold pz; rw [if_neg (by decide), if_pos (by decide)]
  have e2 : px 215 u M D m = (upd u 4 4, M, D, m) := by
    unfold px; rw [if_neg (by decide), if_neg (by decide), if_neg (by decide)]
  rw [e1, e2]
  show ER r d t ((4, r, k, M, D)) ((upd u 4 4, M, D, m))
  exact er_ill hM hD hK h (Or.inr (Or.inr (Or.inr rfl)))
theorem cr_216 : CR 216 := by
  intro r k u M D m d t ho he hm hK hM hD h
  have e1 : pz 216 r k M D = (4, r, k, M, D) := by
    unfold pz; rw [if_neg (by decide), if_pos (by decide)]
  have e2 : px 216 u M D m = f_X_tests 6 6 216 u M D m := by
    unfold px; rw [if_neg (by decide), if_neg (by decide), if_pos (by decide), show (216 : Int32) / 32 = 6 from by decide, show (216 : Int32) / 4 - 216 / 4 / 8 * 8 = 6 from by decide]
  rw [e1, e2]
  show ER r d t ((4, r, k, M, D)) ((upd u 4 4, M, D, m))
  exact er_ill hM hD hK h (Or.inr (Or.inr (Or.inr rfl)))
theorem cr_217 : CR 217 := by
  intro r k u M D m d t ho he hm hK hM hD h
  have e1 : pz 217 r k M D = f_P_executeG1 6 6 (f_P_fetch 6 r k M D).1 (f_P_fetch 6 r k M D).2 M D := by
    unfold pz; rw [if_neg (by decide), if_neg (by decide), if_pos (by decide), show (217 : Int32) / 32 = 6 from by decide, show f_P_modeOf 217 = 6 from by decide]
  have e2 : px 217 u M D m = f_X_sums_k1 6 6 u M D m (f_X_address 6 u M m) := by
    unfold px; rw [if_pos (by decide), show (217 : Int32) / 32 = 6 from by decide, show (217 : Int32) / 4 - 217 / 4 / 8 * 8 = 6 from by decide]; unfold f_X_sums; rw [if_neg (by decide), show f_X_mode1 6 = 6 from by decide]
  rw [e1, e2]
  show ER r d t (f_P_executeG1 6 6 (f_P_fetch 6 r k M D).1 (f_P_fetch 6 r k M D).2 M D) (f_X_sums_k1 6 6 u M D m (f_X_address 6 u M m))
  exact g1_rel (xm := 6) ho hM hD (Or.inr (Or.inr ⟨by decide, by decide, by decide, by decide⟩)) (by decide) (fr_WIDEY he hK hM h hm) (Or.inr (Or.inr (Or.inr (Or.inr (Or.inr (Or.inl rfl))))))
theorem cr_218 : CR 218 := by
  intro r k u M D m d t ho he hm hK hM hD h
  have e1 : pz 218 r k M D = (4, r, k, M, D) := by
    unfold pz; rw [if_neg (by decide), if_pos (by decide)]
  have e2 : px 218 u M D m = f_X_changes 6 6 u M D m := by
    unfold px; rw [if_neg (by decide), if_pos (by decide), if_neg (by decide), if_neg (by decide), show (218 : Int32) / 32 = 6 from by decide, show (218 : Int32) / 4 - 218 / 4 / 8 * 8 = 6 from by decide]
  rw [e1, e2]
  show ER r d t ((4, r, k, M, D)) ((upd u 4 4, M, D, m))
  exact er_ill hM hD hK h (Or.inr (Or.inr (Or.inr rfl)))
theorem cr_219 : CR 219 := by
  intro r k u M D m d t ho he hm hK hM hD h
  have e1 : pz 219 r k M D = (4, r, k, M, D) := by
    unfold pz; rw [if_neg (by decide), if_pos (by decide)]
  have e2 : px 219 u M D m = (upd u 4 4, M, D, m) := by
    unfold px; rw [if_neg (by decide), if_neg (by decide), if_neg (by decide)]
  rw [e1, e2]
  show ER r d t ((4, r, k, M, D)) ((upd u 4 4, M, D, m))
  exact er_ill hM hD hK h (Or.inr (Or.inr (Or.inr rfl)))
theorem cr_220 : CR 220 := by
  intro r k u M D m d t ho he hm hK hM hD h
  have e1 : pz 220 r k M D = (4, r, k, M, D) := by
    unfold pz; rw [if_neg (by decide), if_pos (by decide)]
  have e2 : px 220 u M D m = f_X_tests 6 7 220 u M D m := by
    unfold px; rw [if_neg (by decide), if_neg (by decide), if_pos (by decide), show (220 : Int32) / 32 = 6 from by decide, show (220 : Int32) / 4 - 220 / 4 / 8 * 8 = 7 from by decide]
  rw [e1, e2]
  show ER r d t ((4, r, k, M, D)) ((upd u 4 4, M, D, m))
  exact er_ill hM hD hK h (Or.inr (Or.inr (Or.inr rfl)))
theorem cr_221 : CR 221 := by
  intro r k u M D m d t ho he hm hK hM hD h
  have e1 : pz 221 r k M D = f_P_executeG1 6 7 (f_P_fetch 7 r k M D).1 (f_P_fetch 7 r k M D).2 M D := by
    unfold pz; rw [if_neg (by decide), if_neg (by decide), if_pos (by decide), show (221 : Int32) / 32 = 6 from by decide, show f_P_modeOf 221 = 7 from by decide]
  have e2 : px 221 u M D m = f_X_sums_k1 6 7 u M D m (f_X_address 5 u M m) := by
    unfold px; rw [if_pos (by decide), show (221 : Int32) / 32 = 6 from by decide, show (221 : Int32) / 4 - 221 / 4 / 8 * 8 = 7 from by decide]; unfold f_X_sums; rw [if_neg (by decide), show f_X_mode1 7 = 5 from by decide]
  rw [e1, e2]
  show ER r d t (f_P_executeG1 6 7 (f_P_fetch 7 r k M D).1 (f_P_fetch 7 r k M D).2 M D) (f_X_sums_k1 6 7 u M D m (f_X_address 5 u M m))
  exact g1_rel (xm := 5) ho hM hD (Or.inr (Or.inr ⟨by decide, by decide, by decide, by decide⟩)) (by decide) (fr_WIDEX he hK hM h hm) (Or.inr (Or.inr (Or.inr (Or.inr (Or.inr (Or.inl rfl))))))
theorem cr_222 : CR 222 := by
  intro r k u M D m d t ho he hm hK hM hD h
  have e1 : pz 222 r k M D = f_P_executeG2 6 7 (f_P_fetch 7 r k M D).1 (f_P_fetch 7 r k M D).2 M D := by
    unfold pz; rw [if_neg (by decide), if_neg (by decide), if_neg (by decide), if_pos (by decide), show (222 : Int32) / 32 = 6 from by decide, show f_P_modeOf 222 = 7 from by decide]
  have e2 : px 222 u M D m = f_X_changes 6 7 u M D m := by
    unfold px; rw [if_neg (by decide), if_pos (by decide), if_neg (by decide), if_neg (by decide), show (222 : Int32) / 32 = 6 from by decide, show (222 : Int32) / 4 - 222 / 4 / 8 * 8 = 7 from by decide]
  rw [e1, e2]
  show ER r d t (f_P_change 6 7 (f_P_fetch 7 r k M D).1 (f_P_fetch 7 r k M D).2 M D) (f_X_changes_k1 6 7 u M D m (f_X_address 5 u M m))
  exact chg_rel ho hM hD (xm := 5) ⟨by decide, by decide, by decide, by decide⟩ (fr_WIDEX he hK hM h hm) (Or.inr (Or.inr (Or.inr (Or.inr (Or.inl rfl))))) rfl
theorem cr_223 : CR 223 := by
  intro r k u M D m d t ho he hm hK hM hD h
  have e1 : pz 223 r k M D = (4, r, k, M, D) := by
    unfold pz; rw [if_neg (by decide), if_pos (by decide)]
  have e2 : px 223 u M D m = (upd u 4 4, M, D, m) := by
    unfold px; rw [if_neg (by decide), if_neg (by decide), if_neg (by decide)]
  rw [e1, e2]
  show ER r d t ((4, r, k, M, D)) ((upd u 4 4, M, D, m))
  exact er_ill hM hD hK h (Or.inr (Or.inr (Or.inr rfl)))
theorem cr_224 : CR 224 := by
  intro r k u M D m d t ho he hm hK hM hD h
  have e1 : pz 224 r k M D = f_P_executeG0 224 2 (f_P_fetch 2 r k M D).1 (f_P_fetch 2 r k M D).2 M D := by
    unfold pz; rw [if_neg (by decide), if_neg (by decide), if_neg (by decide), if_neg (by decide), show f_P_modeOf 224 = 2 from by decide]
  have e2 : px 224 u M D m = f_X_tests 7 0 224 u M D m := by
    unfold px; rw [if_neg (by decide), if_neg (by decide), if_pos (by decide), show (224 : Int32) / 32 = 7 from by decide, show (224 : Int32) / 4 - 224 / 4 / 8 * 8 = 0 from by decide]
  rw [e1, e2]
  show ER r d t ((0, f_P_compare ((f_P_fetch 2 r k M D).1 1) (f_P_operand 2 (f_P_fetch 2 r k M D).1 (f_P_fetch 2 r k M D).2 M D).1 (f_P_fetch 2 r k M D).1, (f_P_operand 2 (f_P_fetch 2 r k M D).1 (f_P_fetch 2 r k M D).2 M D).2, M, D)) (((f_X_operand 0 (f_X_address 0 u M m).1 (f_X_address 0 u M m).2.1 M (f_X_address 0 u M m).2.2).2, M, D, f_X_compare ((f_X_address 0 u M m).2.2 1) (f_X_operand 0 (f_X_address 0 u M m).1 (f_X_address 0 u M m).2.1 M (f_X_address 0 u M m).2.2).1 (f_X_operand 0 (f_X_address 0 u M m).1 (f_X_address 0 u M m).2.1 M (f_X_address 0 u M m).2.2).2 (f_X_address 0 u M m).2.2))
  exact cp_rel ho hM hD (Or.inl ⟨rfl, rfl⟩) (fr_NEXT he hK hM h hm) ((fr_NEXT he hK hM h hm).rr ho).1.2.1
theorem cr_225 : CR 225 := by
  intro r k u M D m d t ho he hm hK hM hD h
  have e1 : pz 225 r k M D = f_P_executeG1 7 0 (f_P_fetch 0 r k M D).1 (f_P_fetch 0 r k M D).2 M D := by
    unfold pz; rw [if_neg (by decide), if_neg (by decide), if_pos (by decide), show (225 : Int32) / 32 = 7 from by decide, show f_P_modeOf 225 = 0 from by decide]
  have e2 : px 225 u M D m = f_X_sums_k1 7 0 u M D m (f_X_address 7 u M m) := by
    unfold px; rw [if_pos (by decide), show (225 : Int32) / 32 = 7 from by decide, show (225 : Int32) / 4 - 225 / 4 / 8 * 8 = 0 from by decide]; unfold f_X_sums; rw [if_neg (by decide), show f_X_mode1 0 = 7 from by decide]
  rw [e1, e2]
  show ER r d t (f_P_executeG1 7 0 (f_P_fetch 0 r k M D).1 (f_P_fetch 0 r k M D).2 M D) (f_X_sums_k1 7 0 u M D m (f_X_address 7 u M m))
  exact g1_rel (xm := 7) ho hM hD (Or.inr (Or.inr ⟨by decide, by decide, by decide, by decide⟩)) (by decide) (fr_INX he hK hM h hm) (Or.inr (Or.inr (Or.inr (Or.inr (Or.inr (Or.inr rfl))))))
theorem cr_226 : CR 226 := by
  intro r k u M D m d t ho he hm hK hM hD h
  have e1 : pz 226 r k M D = (4, r, k, M, D) := by
    unfold pz; rw [if_neg (by decide), if_pos (by decide)]
  have e2 : px 226 u M D m = f_X_changes 7 0 u M D m := by
    unfold px; rw [if_neg (by decide), if_pos (by decide), if_neg (by decide), if_neg (by decide), show (226 : Int32) / 32 = 7 from by decide, show (226 : Int32) / 4 - 226 / 4 / 8 * 8 = 0 from by decide]
  rw [e1, e2]
  show ER r d t ((4, r, k, M, D)) ((upd u 4 4, M, D, m))
  exact er_ill hM hD hK h (Or.inr (Or.inr (Or.inr rfl)))
theorem cr_227 : CR 227 := by
  intro r k u M D m d t ho he hm hK hM hD h
  have e1 : pz 227 r k M D = (4, r, k, M, D) := by
    unfold pz; rw [if_neg (by decide), if_pos (by decide)]
  have e2 : px 227 u M D m = (upd u 4 4, M, D, m) := by
    unfold px; rw [if_neg (by decide), if_neg (by decide), if_neg (by decide)]
  rw [e1, e2]
  show ER r d t ((4, r, k, M, D)) ((upd u 4 4, M, D, m))
  exact er_ill hM hD hK h (Or.inr (Or.inr (Or.inr rfl)))
theorem cr_228 : CR 228 := by
  intro r k u M D m d t ho he hm hK hM hD h
  have e1 : pz 228 r k M D = f_P_executeG0 228 1 (f_P_fetch 1 r k M D).1 (f_P_fetch 1 r k M D).2 M D := by
    unfold pz; rw [if_neg (by decide), if_neg (by decide), if_neg (by decide), if_neg (by decide), show f_P_modeOf 228 = 1 from by decide]
  have e2 : px 228 u M D m = f_X_tests 7 1 228 u M D m := by
    unfold px; rw [if_neg (by decide), if_neg (by decide), if_pos (by decide), show (228 : Int32) / 32 = 7 from by decide, show (228 : Int32) / 4 - 228 / 4 / 8 * 8 = 1 from by decide]
  rw [e1, e2]
  show ER r d t ((0, f_P_compare ((f_P_fetch 1 r k M D).1 1) (f_P_operand 1 (f_P_fetch 1 r k M D).1 (f_P_fetch 1 r k M D).2 M D).1 (f_P_fetch 1 r k M D).1, (f_P_operand 1 (f_P_fetch 1 r k M D).1 (f_P_fetch 1 r k M D).2 M D).2, M, D)) (((f_X_operand 1 (f_X_address 1 u M m).1 (f_X_address 1 u M m).2.1 M (f_X_address 1 u M m).2.2).2, M, D, f_X_compare ((f_X_address 1 u M m).2.2 1) (f_X_operand 1 (f_X_address 1 u M m).1 (f_X_address 1 u M m).2.1 M (f_X_address 1 u M m).2.2).1 (f_X_operand 1 (f_X_address 1 u M m).1 (f_X_address 1 u M m).2.1 M (f_X_address 1 u M m).2.2).2 (f_X_address 1 u M m).2.2))
  exact cp_rel ho hM hD (Or.inr (Or.inr ⟨by decide, by decide, by decide, by decide⟩)) (fr_ZERO he hK hM h hm) ((fr_ZERO he hK hM h hm).rr ho).1.2.1
theorem cr_229 : CR 229 := by
  intro r k u M D m d t ho he hm hK hM hD h
  have e1 : pz 229 r k M D = f_P_executeG1 7 1 (f_P_fetch 1 r k M D).1 (f_P_fetch 1 r k M D).2 M D := by
    unfold pz; rw [if_neg (by decide), if_neg (by decide), if_pos (by decide), show (229 : Int32) / 32 = 7 from by decide, show f_P_modeOf 229 = 1 from by decide]
  have e2 : px 229 u M D m = f_X_sums_k1 7 1 u M D m (f_X_address 1 u M m) := by
    unfold px; rw [if_pos (by decide), show (229 : Int32) / 32 = 7 from by decide, show (229 : Int32) / 4 - 229 / 4 / 8 * 8 = 1 from by decide]; unfold f_X_sums; rw [if_neg (by decide), show f_X_mode1 1 = 1 from by decide]
  rw [e1, e2]
  show ER r d t (f_P_executeG1 7 1 (f_P_fetch 1 r k M D).1 (f_P_fetch 1 r k M D).2 M D) (f_X_sums_k1 7 1 u M D m (f_X_address 1 u M m))
  exact g1_rel (xm := 1) ho hM hD (Or.inr (Or.inr ⟨by decide, by decide, by decide, by decide⟩)) (by decide) (fr_ZERO he hK hM h hm) (Or.inr (Or.inr (Or.inr (Or.inr (Or.inr (Or.inr rfl))))))
theorem cr_230 : CR 230 := by
  intro r k u M D m d t ho he hm hK hM hD h
  have e1 : pz 230 r k M D = f_P_executeG2 7 1 (f_P_fetch 1 r k M D).1 (f_P_fetch 1 r k M D).2 M D := by
    unfold pz; rw [if_neg (by decide), if_neg (by decide), if_neg (by decide), if_pos (by decide), show (230 : Int32) / 32 = 7 from by decide, show f_P_modeOf 230 = 1 from by decide]
  have e2 : px 230 u M D m = f_X_changes 7 1 u M D m := by
    unfold px; rw [if_neg (by decide), if_pos (by decide), if_neg (by decide), if_neg (by decide), show (230 : Int32) / 32 = 7 from by decide, show (230 : Int32) / 4 - 230 / 4 / 8 * 8 = 1 from by decide]
  rw [e1, e2]
  show ER r d t (f_P_change 7 1 (f_P_fetch 1 r k M D).1 (f_P_fetch 1 r k M D).2 M D) (f_X_changes_k16 7 1 u M D m (f_X_address 1 u M m))
  exact chg_rel ho hM hD (xm := 1) ⟨by decide, by decide, by decide, by decide⟩ (fr_ZERO he hK hM h hm) (Or.inr (Or.inr (Or.inr (Or.inr (Or.inr rfl))))) rfl
theorem cr_231 : CR 231 := by
  intro r k u M D m d t ho he hm hK hM hD h
  have e1 : pz 231 r k M D = (4, r, k, M, D) := by
    unfold pz; rw [if_neg (by decide), if_pos (by decide)]
  have e2 : px 231 u M D m = (upd u 4 4, M, D, m) := by
    unfold px; rw [if_neg (by decide), if_neg (by decide), if_neg (by decide)]
  rw [e1, e2]
  show ER r d t ((4, r, k, M, D)) ((upd u 4 4, M, D, m))
  exact er_ill hM hD hK h (Or.inr (Or.inr (Or.inr rfl)))
theorem cr_232 : CR 232 := by
  intro r k u M D m d t ho he hm hK hM hD h
  have e1 : pz 232 r k M D = f_P_executeG0 232 10 (f_P_fetch 10 r k M D).1 (f_P_fetch 10 r k M D).2 M D := by
    unfold pz; rw [if_neg (by decide), if_neg (by decide), if_neg (by decide), if_neg (by decide), show f_P_modeOf 232 = 10 from by decide]
  have e2 : px 232 u M D m = f_X_tests 7 2 232 u M D m := by
    unfold px; rw [if_neg (by decide), if_neg (by decide), if_pos (by decide), show (232 : Int32) / 32 = 7 from by decide, show (232 : Int32) / 4 - 232 / 4 / 8 * 8 = 2 from by decide]
  rw [e1, e2]
  show ER r d t ((0, upd (f_P_set (((f_P_fetch 10 r k M D).1 1 + 1) &&& 255) (f_P_fetch 10 r k M D).1).2 1 (f_P_set (((f_P_fetch 10 r k M D).1 1 + 1) &&& 255) (f_P_fetch 10 r k M D).1).1, (f_P_fetch 10 r k M D).2, M, D)) ((u, M, D, f_X_put3 1 (m 1 + 1) 1 u m))
  exact ER.plain hM hD h hK (put_rel1 (rr_ALONE he ho hm).1 (by rw [(rr_ALONE he ho hm).1.1.2.1]))
theorem cr_233 : CR 233 := by
  intro r k u M D m d t ho he hm hK hM hD h
  have e1 : pz 233 r k M D = f_P_executeG1 7 2 (f_P_fetch 2 r k M D).1 (f_P_fetch 2 r k M D).2 M D := by
    unfold pz; rw [if_neg (by decide), if_neg (by decide), if_pos (by decide), show (233 : Int32) / 32 = 7 from by decide, show f_P_modeOf 233 = 2 from by decide]
  have e2 : px 233 u M D m = f_X_sums_k1 7 2 u M D m (f_X_address 0 u M m) := by
    unfold px; rw [if_pos (by decide), show (233 : Int32) / 32 = 7 from by decide, show (233 : Int32) / 4 - 233 / 4 / 8 * 8 = 2 from by decide]; unfold f_X_sums; rw [if_neg (by decide), show f_X_mode1 2 = 0 from by decide]
  rw [e1, e2]
  show ER r d t (f_P_executeG1 7 2 (f_P_fetch 2 r k M D).1 (f_P_fetch 2 r k M D).2 M D) (f_X_sums_k1 7 2 u M D m (f_X_address 0 u M m))
  exact g1_rel (xm := 0) ho hM hD (Or.inl ⟨rfl, rfl⟩) (by decide) (fr_NEXT he hK hM h hm) (Or.inr (Or.inr (Or.inr (Or.inr (Or.inr (Or.inr rfl))))))
theorem cr_234 : CR 234 := by
  intro r k u M D m d t ho he hm hK hM hD h
  have e1 : pz 234 r k M D = f_P_executeG2 7 9 (f_P_fetch 9 r k M D).1 (f_P_fetch 9 r k M D).2 M D := by
    unfold pz; rw [if_neg (by decide), if_neg (by decide), if_neg (by decide), if_pos (by decide), show (234 : Int32) / 32 = 7 from by decide, show f_P_modeOf 234 = 9 from by decide]
  have e2 : px 234 u M D m = f_X_changes 7 2 u M D m := by
    unfold px; rw [if_neg (by decide), if_pos (by decide), if_neg (by decide), if_neg (by decide), show (234 : Int32) / 32 = 7 from by decide, show (234 : Int32) / 4 - 234 / 4 / 8 * 8 = 2 from by decide]
  rw [e1, e2]
  show ER r d t ((0, (f_P_fetch 9 r k M D).1, (f_P_fetch 9 r k M D).2, M, D)) ((u, M, D, m))
  exact ER.plain hM hD h hK (rr_SELF he ho hm)
theorem cr_235 : CR 235 := by
  intro r k u M D m d t ho he hm hK hM hD h
  have e1 : pz 235 r k M D = (4, r, k, M, D) := by
    unfold pz; rw [if_neg (by decide), if_pos (by decide)]
  have e2 : px 235 u M D m = (upd u 4 4, M, D, m) := by
    unfold px; rw [if_neg (by decide), if_neg (by decide), if_neg (by decide)]
  rw [e1, e2]
  show ER r d t ((4, r, k, M, D)) ((upd u 4 4, M, D, m))
  exact er_ill hM hD hK h (Or.inr (Or.inr (Or.inr rfl)))
theorem cr_236 : CR 236 := by
  intro r k u M D m d t ho he hm hK hM hD h
  have e1 : pz 236 r k M D = f_P_executeG0 236 3 (f_P_fetch 3 r k M D).1 (f_P_fetch 3 r k M D).2 M D := by
    unfold pz; rw [if_neg (by decide), if_neg (by decide), if_neg (by decide), if_neg (by decide), show f_P_modeOf 236 = 3 from by decide]
  have e2 : px 236 u M D m = f_X_tests 7 3 236 u M D m := by
    unfold px; rw [if_neg (by decide), if_neg (by decide), if_pos (by decide), show (236 : Int32) / 32 = 7 from by decide, show (236 : Int32) / 4 - 236 / 4 / 8 * 8 = 3 from by decide]
  rw [e1, e2]
  show ER r d t ((0, f_P_compare ((f_P_fetch 3 r k M D).1 1) (f_P_operand 3 (f_P_fetch 3 r k M D).1 (f_P_fetch 3 r k M D).2 M D).1 (f_P_fetch 3 r k M D).1, (f_P_operand 3 (f_P_fetch 3 r k M D).1 (f_P_fetch 3 r k M D).2 M D).2, M, D)) (((f_X_operand 4 (f_X_address 4 u M m).1 (f_X_address 4 u M m).2.1 M (f_X_address 4 u M m).2.2).2, M, D, f_X_compare ((f_X_address 4 u M m).2.2 1) (f_X_operand 4 (f_X_address 4 u M m).1 (f_X_address 4 u M m).2.1 M (f_X_address 4 u M m).2.2).1 (f_X_operand 4 (f_X_address 4 u M m).1 (f_X_address 4 u M m).2.1 M (f_X_address 4 u M m).2.2).2 (f_X_address 4 u M m).2.2))
  exact cp_rel ho hM hD (Or.inr (Or.inr ⟨by decide, by decide, by decide, by decide⟩)) (fr_WIDE he hK hM h hm) ((fr_WIDE he hK hM h hm).rr ho).1.2.1
theorem cr_237 : CR 237 := by
  intro r k u M D m d t ho he hm hK hM hD h
  have e1 : pz 237 r k M D = f_P_executeG1 7 3 (f_P_fetch 3 r k M D).1 (f_P_fetch 3 r k M D).2 M D := by
    unfold pz; rw [if_neg (by decide), if_neg (by decide), if_pos (by decide), show (237 : Int32) / 32 = 7 from by decide, show f_P_modeOf 237 = 3 from by decide]
  have e2 : px 237 u M D m = f_X_sums_k1 7 3 u M D m (f_X_address 4 u M m) := by
    unfold px; rw [if_pos (by decide), show (237 : Int32) / 32 = 7 from by decide, show (237 : Int32) / 4 - 237 / 4 / 8 * 8 = 3 from by decide]; unfold f_X_sums; rw [if_neg (by decide), show f_X_mode1 3 = 4 from by decide]
  rw [e1, e2]
  show ER r d t (f_P_executeG1 7 3 (f_P_fetch 3 r k M D).1 (f_P_fetch 3 r k M D).2 M D) (f_X_sums_k1 7 3 u M D m (f_X_address 4 u M m))
  exact g1_rel (xm := 4) ho hM hD (Or.inr (Or.inr ⟨by decide, by decide, by decide, by decide⟩)) (by decide) (fr_WIDE he hK hM h hm) (Or.inr (Or.inr (Or.inr (Or.inr (Or.inr (Or.inr rfl))))))
theorem cr_238 : CR 238 := by
  intro r k u M D m d t ho he hm hK hM hD h
  have e1 : pz 238 r k M D = f_P_executeG2 7 3 (f_P_fetch 3 r k M D).1 (f_P_fetch 3 r k M D).2 M D := by
    unfold pz; rw [if_neg (by decide), if_neg (by decide), if_neg (by decide), if_pos (by decide), show (238 : Int32) / 32 = 7 from by decide, show f_P_modeOf 238 = 3 from by decide]
  have e2 : px 238 u M D m = f_X_changes 7 3 u M D m := by
    unfold px; rw [if_neg (by decide), if_pos (by decide), if_neg (by decide), if_neg (by decide), show (238 : Int32) / 32 = 7 from by decide, show (238 : Int32) / 4 - 238 / 4 / 8 * 8 = 3 from by decide]
  rw [e1, e2]
  show ER r d t (f_P_change 7 3 (f_P_fetch 3 r k M D).1 (f_P_fetch 3 r k M D).2 M D) (f_X_changes_k11 7 3 u M D m (f_X_address 4 u M m))
  exact chg_rel ho hM hD (xm := 4) ⟨by decide, by decide, by decide, by decide⟩ (fr_WIDE he hK hM h hm) (Or.inr (Or.inr (Or.inr (Or.inr (Or.inr rfl))))) rfl
theorem cr_239 : CR 239 := by
  intro r k u M D m d t ho he hm hK hM hD h
  have e1 : pz 239 r k M D = (4, r, k, M, D) := by
    unfold pz; rw [if_neg (by decide), if_pos (by decide)]
  have e2 : px 239 u M D m = (upd u 4 4, M, D, m) := by
    unfold px; rw [if_neg (by decide), if_neg (by decide), if_neg (by decide)]
  rw [e1, e2]
  show ER r d t ((4, r, k, M, D)) ((upd u 4 4, M, D, m))
  exact er_ill hM hD hK h (Or.inr (Or.inr (Or.inr rfl)))
theorem cr_240 : CR 240 := by
  intro r k u M D m d t ho he hm hK hM hD h
  have e1 : pz 240 r k M D = f_P_executeG0 240 2 (f_P_fetch 2 r k M D).1 (f_P_fetch 2 r k M D).2 M D := by
    unfold pz; rw [if_neg (by decide), if_neg (by decide), if_neg (by decide), if_neg (by decide), show f_P_modeOf 240 = 2 from by decide]
  have e2 : px 240 u M D m = f_X_tests 7 4 240 u M D m := by
    unfold px; rw [if_neg (by decide), if_neg (by decide), if_pos (by decide), show (240 : Int32) / 32 = 7 from by decide, show (240 : Int32) / 4 - 240 / 4 / 8 * 8 = 4 from by decide]
  rw [e1, e2]
  show ER r d t ((0, f_P_branch 7 (f_P_fetch 2 r k M D).1, (f_P_fetch 2 r k M D).2, M, D)) (f_X_tests_k18 7 4 240 u M D m (f_X_branch 7 u M m))
  exact br_rel ho hM hD (fr_NEXT he hK hM h hm) (Or.inr (Or.inr (Or.inr (Or.inr (Or.inr (Or.inr (Or.inr rfl)))))))
theorem cr_241 : CR 241 := by
  intro r k u M D m d t ho he hm hK hM hD h
  have e1 : pz 241 r k M D = f_P_executeG1 7 4 (f_P_fetch 4 r k M D).1 (f_P_fetch 4 r k M D).2 M D := by
    unfold pz; rw [if_neg (by decide), if_neg (by decide), if_pos (by decide), show (241 : Int32) / 32 = 7 from by decide, show f_P_modeOf 241 = 4 from by decide]
  have e2 : px 241 u M D m = f_X_sums_k1 7 4 u M D m (f_X_address 8 u M m) := by
    unfold px; rw [if_pos (by decide), show (241 : Int32) / 32 = 7 from by decide, show (241 : Int32) / 4 - 241 / 4 / 8 * 8 = 4 from by decide]; unfold f_X_sums; rw [if_neg (by decide), show f_X_mode1 4 = 8 from by decide]
  rw [e1, e2]
  show ER r d t (f_P_executeG1 7 4 (f_P_fetch 4 r k M D).1 (f_P_fetch 4 r k M D).2 M D) (f_X_sums_k1 7 4 u M D m (f_X_address 8 u M m))
  exact g1_rel (xm := 8) ho hM hD (Or.inr (Or.inr ⟨by decide, by decide, by decide, by decide⟩)) (by decide) (fr_INY he hK hM h hm) (Or.inr (Or.inr (Or.inr (Or.inr (Or.inr (Or.inr rfl))))))
theorem cr_242 : CR 242 := by
  intro r k u M D m d t ho he hm hK hM hD h
  have e1 : pz 242 r k M D = (4, r, k, M, D) := by
    unfold pz; rw [if_neg (by decide), if_pos (by decide)]
  have e2 : px 242 u M D m = f_X_changes 7 4 u M D m := by
    unfold px; rw [if_neg (by decide), if_pos (by decide), if_neg (by decide), if_neg (by decide), show (242 : Int32) / 32 = 7 from by decide, show (242 : Int32) / 4 - 242 / 4 / 8 * 8 = 4 from by decide]
  rw [e1, e2]
  show ER r d t ((4, r, k, M, D)) ((upd u 4 4, M, D, m))
  exact er_ill hM hD hK h (Or.inr (Or.inr (Or.inr rfl)))
theorem cr_243 : CR 243 := by
  intro r k u M D m d t ho he hm hK hM hD h
  have e1 : pz 243 r k M D = (4, r, k, M, D) := by
    unfold pz; rw [if_neg (by decide), if_pos (by decide)]
  have e2 : px 243 u M D m = (upd u 4 4, M, D, m) := by
    unfold px; rw [if_neg (by decide), if_neg (by decide), if_neg (by decide)]
  rw [e1, e2]
  show ER r d t ((4, r, k, M, D)) ((upd u 4 4, M, D, m))
  exact er_ill hM hD hK h (Or.inr (Or.inr (Or.inr rfl)))
theorem cr_244 : CR 244 := by
  intro r k u M D m d t ho he hm hK hM hD h
  have e1 : pz 244 r k M D = (4, r, k, M, D) := by
    unfold pz; rw [if_neg (by decide), if_pos (by decide)]
  have e2 : px 244 u M D m = f_X_tests 7 5 244 u M D m := by
    unfold px; rw [if_neg (by decide), if_neg (by decide), if_pos (by decide), show (244 : Int32) / 32 = 7 from by decide, show (244 : Int32) / 4 - 244 / 4 / 8 * 8 = 5 from by decide]
  rw [e1, e2]
  show ER r d t ((4, r, k, M, D)) ((upd u 4 4, M, D, m))
  exact er_ill hM hD hK h (Or.inr (Or.inr (Or.inr rfl)))
theorem cr_245 : CR 245 := by
  intro r k u M D m d t ho he hm hK hM hD h
  have e1 : pz 245 r k M D = f_P_executeG1 7 5 (f_P_fetch 5 r k M D).1 (f_P_fetch 5 r k M D).2 M D := by
    unfold pz; rw [if_neg (by decide), if_neg (by decide), if_pos (by decide), show (245 : Int32) / 32 = 7 from by decide, show f_P_modeOf 245 = 5 from by decide]
  have e2 : px 245 u M D m = f_X_sums_k1 7 5 u M D m (f_X_address 2 u M m) := by
    unfold px; rw [if_pos (by decide), show (245 : Int32) / 32 = 7 from by decide, show (245 : Int32) / 4 - 245 / 4 / 8 * 8 = 5 from by decide]; unfold f_X_sums; rw [if_neg (by decide), show f_X_mode1 5 = 2 from by decide]
  rw [e1, e2]
  show ER r d t (f_P_executeG1 7 5 (f_P_fetch 5 r k M D).1 (f_P_fetch 5 r k M D).2 M D) (f_X_sums_k1 7 5 u M D m (f_X_address 2 u M m))
  exact g1_rel (xm := 2) ho hM hD (Or.inr (Or.inr ⟨by decide, by decide, by decide, by decide⟩)) (by decide) (fr_ZEROX he hK hM h hm) (Or.inr (Or.inr (Or.inr (Or.inr (Or.inr (Or.inr rfl))))))
theorem cr_246 : CR 246 := by
  intro r k u M D m d t ho he hm hK hM hD h
  have e1 : pz 246 r k M D = f_P_executeG2 7 5 (f_P_fetch 5 r k M D).1 (f_P_fetch 5 r k M D).2 M D := by
    unfold pz; rw [if_neg (by decide), if_neg (by decide), if_neg (by decide), if_pos (by decide), show (246 : Int32) / 32 = 7 from by decide, show f_P_modeOf 246 = 5 from by decide]
  have e2 : px 246 u M D m = f_X_changes 7 5 u M D m := by
    unfold px; rw [if_neg (by decide), if_pos (by decide), if_neg (by decide), if_neg (by decide), show (246 : Int32) / 32 = 7 from by decide, show (246 : Int32) / 4 - 246 / 4 / 8 * 8 = 5 from by decide]
  rw [e1, e2]
  show ER r d t (f_P_change 7 5 (f_P_fetch 5 r k M D).1 (f_P_fetch 5 r k M D).2 M D) (f_X_changes_k6 7 5 u M D m (f_X_address 2 u M m))
  exact chg_rel ho hM hD (xm := 2) ⟨by decide, by decide, by decide, by decide⟩ (fr_ZEROX he hK hM h hm) (Or.inr (Or.inr (Or.inr (Or.inr (Or.inr rfl))))) rfl
theorem cr_247 : CR 247 := by
  intro r k u M D m d t ho he hm hK hM hD h
  have e1 : pz 247 r k M D = (4, r, k, M, D) := by
    unfold pz; rw [if_neg (by decide), if_pos (by decide)]
  have e2 : px 247 u M D m = (upd u 4 4, M, D, m) := by
    unfold px; rw [if_neg (by decide), if_neg (by decide), if_neg (by decide)]
  rw [e1, e2]
  show ER r d t ((4, r, k, M, D)) ((upd u 4 4, M, D, m))
  exact er_ill hM hD hK h (Or.inr (Or.inr (Or.inr rfl)))
theorem cr_248 : CR 248 := by
  intro r k u M D m d t ho he hm hK hM hD h
  have e1 : pz 248 r k M D = (4, r, k, M, D) := by
    unfold pz; rw [if_neg (by decide), if_pos (by decide)]
  have e2 : px 248 u M D m = f_X_tests 7 6 248 u M D m := by
    unfold px; rw [if_neg (by decide), if_neg (by decide), if_pos (by decide), show (248 : Int32) / 32 = 7 from by decide, show (248 : Int32) / 4 - 248 / 4 / 8 * 8 = 6 from by decide]
  rw [e1, e2]
  show ER r d t ((4, r, k, M, D)) ((upd u 4 4, M, D, m))
  exact er_ill hM hD hK h (Or.inr (Or.inr (Or.inr rfl)))
theorem cr_249 : CR 249 := by
  intro r k u M D m d t ho he hm hK hM hD h
  have e1 : pz 249 r k M D = f_P_executeG1 7 6 (f_P_fetch 6 r k M D).1 (f_P_fetch 6 r k M D).2 M D := by
    unfold pz; rw [if_neg (by decide), if_neg (by decide), if_pos (by decide), show (249 : Int32) / 32 = 7 from by decide, show f_P_modeOf 249 = 6 from by decide]
  have e2 : px 249 u M D m = f_X_sums_k1 7 6 u M D m (f_X_address 6 u M m) := by
    unfold px; rw [if_pos (by decide), show (249 : Int32) / 32 = 7 from by decide, show (249 : Int32) / 4 - 249 / 4 / 8 * 8 = 6 from by decide]; unfold f_X_sums; rw [if_neg (by decide), show f_X_mode1 6 = 6 from by decide]
  rw [e1, e2]
  show ER r d t (f_P_executeG1 7 6 (f_P_fetch 6 r k M D).1 (f_P_fetch 6 r k M D).2 M D) (f_X_sums_k1 7 6 u M D m (f_X_address 6 u M m))
  exact g1_rel (xm := 6) ho hM hD (Or.inr (Or.inr ⟨by decide, by decide, by decide, by decide⟩)) (by decide) (fr_WIDEY he hK hM h hm) (Or.inr (Or.inr (Or.inr (Or.inr (Or.inr (Or.inr rfl))))))
theorem cr_250 : CR 250 := by
  intro r k u M D m d t ho he hm hK hM hD h
  have e1 : pz 250 r k M D = (4, r, k, M, D) := by
    unfold pz; rw [if_neg (by decide), if_pos (by decide)]
  have e2 : px 250 u M D m = f_X_changes 7 6 u M D m := by
    unfold px; rw [if_neg (by decide), if_pos (by decide), if_neg (by decide), if_neg (by decide), show (250 : Int32) / 32 = 7 from by decide, show (250 : Int32) / 4 - 250 / 4 / 8 * 8 = 6 from by decide]
  rw [e1, e2]
  show ER r d t ((4, r, k, M, D)) ((upd u 4 4, M, D, m))
  exact er_ill hM hD hK h (Or.inr (Or.inr (Or.inr rfl)))
theorem cr_251 : CR 251 := by
  intro r k u M D m d t ho he hm hK hM hD h
  have e1 : pz 251 r k M D = (4, r, k, M, D) := by
    unfold pz; rw [if_neg (by decide), if_pos (by decide)]
  have e2 : px 251 u M D m = (upd u 4 4, M, D, m) := by
    unfold px; rw [if_neg (by decide), if_neg (by decide), if_neg (by decide)]
  rw [e1, e2]
  show ER r d t ((4, r, k, M, D)) ((upd u 4 4, M, D, m))
  exact er_ill hM hD hK h (Or.inr (Or.inr (Or.inr rfl)))
theorem cr_252 : CR 252 := by
  intro r k u M D m d t ho he hm hK hM hD h
  have e1 : pz 252 r k M D = (4, r, k, M, D) := by
    unfold pz; rw [if_neg (by decide), if_pos (by decide)]
  have e2 : px 252 u M D m = f_X_tests 7 7 252 u M D m := by
    unfold px; rw [if_neg (by decide), if_neg (by decide), if_pos (by decide), show (252 : Int32) / 32 = 7 from by decide, show (252 : Int32) / 4 - 252 / 4 / 8 * 8 = 7 from by decide]
  rw [e1, e2]
  show ER r d t ((4, r, k, M, D)) ((upd u 4 4, M, D, m))
  exact er_ill hM hD hK h (Or.inr (Or.inr (Or.inr rfl)))
theorem cr_253 : CR 253 := by
  intro r k u M D m d t ho he hm hK hM hD h
  have e1 : pz 253 r k M D = f_P_executeG1 7 7 (f_P_fetch 7 r k M D).1 (f_P_fetch 7 r k M D).2 M D := by
    unfold pz; rw [if_neg (by decide), if_neg (by decide), if_pos (by decide), show (253 : Int32) / 32 = 7 from by decide, show f_P_modeOf 253 = 7 from by decide]
  have e2 : px 253 u M D m = f_X_sums_k1 7 7 u M D m (f_X_address 5 u M m) := by
    unfold px; rw [if_pos (by decide), show (253 : Int32) / 32 = 7 from by decide, show (253 : Int32) / 4 - 253 / 4 / 8 * 8 = 7 from by decide]; unfold f_X_sums; rw [if_neg (by decide), show f_X_mode1 7 = 5 from by decide]
  rw [e1, e2]
  show ER r d t (f_P_executeG1 7 7 (f_P_fetch 7 r k M D).1 (f_P_fetch 7 r k M D).2 M D) (f_X_sums_k1 7 7 u M D m (f_X_address 5 u M m))
  exact g1_rel (xm := 5) ho hM hD (Or.inr (Or.inr ⟨by decide, by decide, by decide, by decide⟩)) (by decide) (fr_WIDEX he hK hM h hm) (Or.inr (Or.inr (Or.inr (Or.inr (Or.inr (Or.inr rfl))))))
theorem cr_254 : CR 254 := by
  intro r k u M D m d t ho he hm hK hM hD h
  have e1 : pz 254 r k M D = f_P_executeG2 7 7 (f_P_fetch 7 r k M D).1 (f_P_fetch 7 r k M D).2 M D := by
    unfold pz; rw [if_neg (by decide), if_neg (by decide), if_neg (by decide), if_pos (by decide), show (254 : Int32) / 32 = 7 from by decide, show f_P_modeOf 254 = 7 from by decide]
  have e2 : px 254 u M D m = f_X_changes 7 7 u M D m := by
    unfold px; rw [if_neg (by decide), if_pos (by decide), if_neg (by decide), if_neg (by decide), show (254 : Int32) / 32 = 7 from by decide, show (254 : Int32) / 4 - 254 / 4 / 8 * 8 = 7 from by decide]
  rw [e1, e2]
  show ER r d t (f_P_change 7 7 (f_P_fetch 7 r k M D).1 (f_P_fetch 7 r k M D).2 M D) (f_X_changes_k1 7 7 u M D m (f_X_address 5 u M m))
  exact chg_rel ho hM hD (xm := 5) ⟨by decide, by decide, by decide, by decide⟩ (fr_WIDEX he hK hM h hm) (Or.inr (Or.inr (Or.inr (Or.inr (Or.inr rfl))))) rfl
theorem cr_255 : CR 255 := by
  intro r k u M D m d t ho he hm hK hM hD h
  have e1 : pz 255 r k M D = (4, r, k, M, D) := by
    unfold pz; rw [if_neg (by decide), if_pos (by decide)]
  have e2 : px 255 u M D m = (upd u 4 4, M, D, m) := by
    unfold px; rw [if_neg (by decide), if_neg (by decide), if_neg (by decide)]
  rw [e1, e2]
  show ER r d t ((4, r, k, M, D)) ((upd u 4 4, M, D, m))
  exact er_ill hM hD hK h (Or.inr (Or.inr (Or.inr rfl)))
