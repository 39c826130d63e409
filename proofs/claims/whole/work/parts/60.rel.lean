/-! WHAT THE CLASS AND THE REFERENCE SHARE -/
def isA (x : Int32) : Prop := ∃ n : Nat, n < 1024 ∧ x = nI n
def is01 (x : Int32) : Prop := x = 0 ∨ x = 1
/-- registers and flags are what they may be -/
def OkF (r : Nat → Int32) : Prop := isB (r 0) ∧ isB (r 1) ∧ isB (r 2) ∧ isB (r 3) ∧ is01 (r 5) ∧ is01 (r 6) ∧ is01 (r 7) ∧ is01 (r 8)
def EqF (r m : Nat → Int32) : Prop := m 0 = r 0 ∧ m 1 = r 1 ∧ m 2 = r 2 ∧ m 3 = r 3 ∧ m 5 = r 5 ∧ m 6 = r 6 ∧ m 7 = r 7 ∧ m 8 = r 8
/-- within an instruction: the class's next pc is the reference's pc -/
def RR (r m : Nat → Int32) : Prop := EqF r m ∧ OkF r ∧ m 4 = r 11 ∧ isA (r 11)
def AllB (M : Nat → Int32) : Prop := ∀ j, isB (M j)
def OkK (k : Nat → Int32) : Prop := isB (k 0) ∧ sn_ok k ∧ is01 (k 2)
/-- board and reference: key, sector, guard; done, fault, latest -/
def RK (k u : Nat → Int32) (d f t : Int32) : Prop := u 0 = k 0 ∧ u 1 = k 1 ∧ u 2 = k 2 ∧ (u 3 = d ∧ u 8 = 0) ∧ u 4 = f ∧ u 5 = t
theorem and_1023_1023 (x : Int32) : (x &&& 1023) &&& 1023 = x &&& 1023 := by
  rw [Int32.and_assoc]; rfl
theorem and_add_1023 (x y : Int32) : ((x &&& 1023) + y) &&& 1023 = (x + y) &&& 1023 := by
  rw [pk_and ((x &&& 1023) + y) (m := 1023) 10 (by decide), pk_and (x + y) (m := 1023) 10 (by decide), pk_and x (m := 1023) 10 (by decide)]
  rw [Int32.toBitVec_add, BitVec.toNat_add, Int32.toBitVec_add, BitVec.toNat_add, pk_tn (by omega)]
  congr 1
  omega
theorem and_isA (x : Int32) : isA (x &&& 1023) := by
  obtain ⟨j, hj, e⟩ := pk_andE x (m := 1023) 10 (by decide)
  exact ⟨j, hj, e⟩
theorem and_isB (x : Int32) : isB (x &&& 255) := by
  obtain ⟨j, hj, e⟩ := pk_andE x (m := 255) 8 (by decide)
  exact ⟨j, hj, e⟩
theorem isB_and {x : Int32} (h : isB x) : x &&& 255 = x := by
  obtain ⟨n, hn, rfl⟩ := h
  rw [pk_andN (m := 255) (by omega) 8 (by decide), Nat.mod_eq_of_lt (by omega)]
theorem isA_and {x : Int32} (h : isA x) : x &&& 1023 = x := by
  obtain ⟨n, hn, rfl⟩ := h
  rw [pk_andN (m := 1023) (by omega) 10 (by decide), Nat.mod_eq_of_lt (by omega)]
theorem isB_0 : isB 0 := ⟨0, by decide, rfl⟩
theorem upd_B {M : Nat → Int32} {j : Nat} {v : Int32} (h : AllB M) (hv : isB v) : AllB (upd M j v) := by
  intro i
  unfold upd
  split
  · exact hv
  · exact h i
theorem cpy_B {M D : Nat → Int32} {a b c : Nat} (h : AllB M) (hd : AllB D) : AllB (va_cpy D M a b c) := by
  intro i
  unfold va_cpy
  split
  · exact hd _
  · exact h i
theorem rb_and (p : Int32) (k M D : Nat → Int32) : f_B_readByte (p &&& 1023) k M D = f_B_readByte p k M D := by
  unfold f_B_readByte
  rw [and_1023_1023]
theorem xr_and (p : Int32) (u M : Nat → Int32) : f_X_read (p &&& 1023) u M = f_X_read p u M := by
  unfold f_X_read
  rw [and_1023_1023]
theorem wb_and1 (p v : Int32) (k M D : Nat → Int32) : f_B_writeByte (p &&& 1023) v k M D = f_B_writeByte p v k M D := by
  unfold f_B_writeByte
  rw [and_1023_1023]
/-- an address: plain, a cell, or nothing -/
theorem addr_cases (p : Int32) : (∃ n : Nat, n < 1008 ∧ p &&& 1023 = nI n) ∨ p &&& 1023 = 1008 ∨ p &&& 1023 = 1009 ∨ p &&& 1023 = 1010 ∨ p &&& 1023 = 1011 ∨ p &&& 1023 = 1012 ∨ ∃ n : Nat, 1012 < n ∧ n < 1024 ∧ p &&& 1023 = nI n := by
  obtain ⟨j, hj, e⟩ := and_isA p
  rcases Nat.lt_or_ge j 1008 with h | h
  · exact Or.inl ⟨j, h, e⟩
  rcases Nat.lt_or_ge 1012 j with h2 | h2
  · exact Or.inr (Or.inr (Or.inr (Or.inr (Or.inr (Or.inr ⟨j, h2, hj, e⟩)))))
  rcases (show j = 1008 ∨ j = 1009 ∨ j = 1010 ∨ j = 1011 ∨ j = 1012 by omega) with rfl | rfl | rfl | rfl | rfl
  · exact Or.inr (Or.inl e)
  · exact Or.inr (Or.inr (Or.inl e))
  · exact Or.inr (Or.inr (Or.inr (Or.inl e)))
  · exact Or.inr (Or.inr (Or.inr (Or.inr (Or.inl e))))
  · exact Or.inr (Or.inr (Or.inr (Or.inr (Or.inr (Or.inl e)))))
theorem sm_1008 {n : Nat} (h : n < 1008) : ¬ (1008 : Int32) ≤ nI n := nI_ge (b := 1008) h (by decide)
theorem sm_lt {n : Nat} (h : n < 1008) : nI n < (1008 : Int32) := nI_lt (b := 1008) h (by decide)
theorem sm_ne {n c : Nat} (h : n < 1008) (hc : 1008 ≤ c) (hc2 : c < 2 ^ 31) : ¬ nI n = nI c := fun e => by
  have := (nI_eq (by omega) hc2).mp e
  omega
theorem bg_1008 {n : Nat} (h : 1012 < n) (h2 : n < 1024) : (1008 : Int32) ≤ nI n := nI_le (a := 1008) (by omega) (by omega)
theorem bg_nlt {n : Nat} (h : 1012 < n) (h2 : n < 1024) : ¬ nI n < (1008 : Int32) := nI_nlt (b := 1008) (by omega) (by omega)
theorem bg_ne {n c : Nat} (h : 1012 < n) (h2 : n < 1024) (hc : c ≤ 1012) : ¬ nI n = nI c := fun e => by
  have := (nI_eq (by omega) (by omega)).mp e
  omega
theorem bg_1010 {n : Nat} (h : 1012 < n) (h2 : n < 1024) : ¬ nI n ≤ (1010 : Int32) := nI_ge (a := 1010) (by omega) (by omega)
theorem sm10 {n : Nat} (h : n < 1008) : ¬ nI n = (1010 : Int32) := sm_ne h (c := 1010) (by decide) (by decide)
theorem sm11 {n : Nat} (h : n < 1008) : ¬ nI n = (1011 : Int32) := sm_ne h (c := 1011) (by decide) (by decide)
theorem sm12 {n : Nat} (h : n < 1008) : ¬ nI n = (1012 : Int32) := sm_ne h (c := 1012) (by decide) (by decide)
theorem bg08 {n : Nat} (h : 1012 < n) (h2 : n < 1024) : ¬ nI n = (1008 : Int32) := bg_ne h h2 (c := 1008) (by decide)
theorem bg09 {n : Nat} (h : 1012 < n) (h2 : n < 1024) : ¬ nI n = (1009 : Int32) := bg_ne h h2 (c := 1009) (by decide)
theorem bg10 {n : Nat} (h : 1012 < n) (h2 : n < 1024) : ¬ nI n = (1010 : Int32) := bg_ne h h2 (c := 1010) (by decide)
theorem bg11 {n : Nat} (h : 1012 < n) (h2 : n < 1024) : ¬ nI n = (1011 : Int32) := bg_ne h h2 (c := 1011) (by decide)
theorem bg12 {n : Nat} (h : 1012 < n) (h2 : n < 1024) : ¬ nI n = (1012 : Int32) := bg_ne h h2 (c := 1012) (by decide)
/-- a read, on both sides -/
theorem rd_both (p : Int32) (k u M D : Nat → Int32) : (∃ n : Nat, f_B_readByte p k M D = (M n, k) ∧ f_X_read p u M = (M n, u)) ∨ (f_B_readByte p k M D = (k 0, k) ∧ f_X_read p u M = (u 0, u)) ∨ (f_B_readByte p k M D = (k 0, upd k 0 0) ∧ f_X_read p u M = (u 0, upd u 0 0)) ∨ (f_B_readByte p k M D = (k 1, k) ∧ f_X_read p u M = (u 1, u)) ∨ (f_B_readByte p k M D = (0, k) ∧ f_X_read p u M = (0, u)) := by
  unfold f_B_readByte f_X_read
  rcases addr_cases p with ⟨n, hn, e⟩ | e | e | e | e | e | ⟨n, h1, h2, e⟩
  · rw [e, if_neg (sm_1008 hn), if_neg (sm_1008 hn)]
    exact Or.inl ⟨_, rfl, rfl⟩
  · rw [e]
    exact Or.inr (Or.inl ⟨rfl, rfl⟩)
  · rw [e]
    exact Or.inr (Or.inr (Or.inl ⟨rfl, rfl⟩))
  · rw [e]
    exact Or.inr (Or.inr (Or.inr (Or.inl ⟨rfl, rfl⟩)))
  · rw [e]
    exact Or.inr (Or.inr (Or.inr (Or.inr ⟨rfl, rfl⟩)))
  · rw [e]
    exact Or.inr (Or.inr (Or.inr (Or.inr ⟨rfl, rfl⟩)))
  · rw [e, if_pos (bg_1008 h1 h2), if_neg (bg08 h1 h2), if_neg (bg09 h1 h2), if_neg (bg10 h1 h2), if_pos (bg_1008 h1 h2), if_neg (bg10 h1 h2), if_neg (bg_1010 h1 h2)]
    exact Or.inr (Or.inr (Or.inr (Or.inr ⟨rfl, rfl⟩)))
theorem sn_B {k : Nat → Int32} (h : sn_ok k) : isB (k 1) := by
  obtain ⟨j, hj, e⟩ := h
  exact ⟨j, by omega, e⟩
/-- what a read gives: the same byte, boards that agree -/
theorem read_rel {p : Int32} {k u M D : Nat → Int32} {d f t : Int32} (hK : OkK k) (hM : AllB M) (h : RK k u d f t) : (f_X_read p u M).1 = (f_B_readByte p k M D).1 ∧ isB (f_B_readByte p k M D).1 ∧ OkK (f_B_readByte p k M D).2 ∧ RK (f_B_readByte p k M D).2 (f_X_read p u M).2 d f t ∧ (f_X_read p u M).2 6 = u 6 ∧ (f_X_read p u M).2 7 = u 7 ∧ (f_X_read p u M).2 8 = u 8 := by
  rcases rd_both p k u M D with ⟨n, e1, e2⟩ | ⟨e1, e2⟩ | ⟨e1, e2⟩ | ⟨e1, e2⟩ | ⟨e1, e2⟩
  · rw [e1, e2]; exact ⟨rfl, hM n, hK, h, rfl, rfl, rfl⟩
  · rw [e1, e2]; exact ⟨h.1, hK.1, hK, h, rfl, rfl, rfl⟩
  · rw [e1, e2]; exact ⟨h.1, hK.1, ⟨isB_0, hK.2.1, hK.2.2⟩, ⟨rfl, h.2⟩, rfl, rfl, rfl⟩
  · rw [e1, e2]; exact ⟨h.2.1, sn_B hK.2.1, hK, h, rfl, rfl, rfl⟩
  · rw [e1, e2]; exact ⟨rfl, isB_0, hK, h, rfl, rfl, rfl⟩
theorem mul32 {k u : Nat → Int32} (h : u 1 = k 1) : xsp u = (k 1 * (32 : Int32)).toNatClampNeg := by
  unfold xsp
  rw [h, Int32.mul_comm]
/-- a write, on both sides -/
theorem write_rel {p v : Int32} {k u M D : Nat → Int32} {d t : Int32} (hK : OkK k) (hM : AllB M) (hD : AllB D) (hv : isB v) (h : RK k u d 0 t) : (f_X_write p v u M D).2.1 = (f_B_writeByte p v k M D).2.2.1 ∧ (f_X_write p v u M D).2.2 = (f_B_writeByte p v k M D).2.2.2 ∧ RK (f_B_writeByte p v k M D).2.1 (f_X_write p v u M D).1 d (f_B_writeByte p v k M D).1 t ∧ OkK (f_B_writeByte p v k M D).2.1 ∧ AllB (f_B_writeByte p v k M D).2.2.1 ∧ AllB (f_B_writeByte p v k M D).2.2.2 ∧ ((f_B_writeByte p v k M D).1 = 0 ∨ (f_B_writeByte p v k M D).1 = 2 ∨ (f_B_writeByte p v k M D).1 = 3) ∧ (f_X_write p v u M D).1 7 = u 7 := by
  obtain ⟨h0, h1, h2, h3, h4, h5⟩ := h
  unfold f_B_writeByte f_X_write
  rw [if_pos h4]
  rcases addr_cases p with ⟨n, hn, e⟩ | e | e | e | e | e | ⟨n, hn1, hn2, e⟩
  · rw [e, if_pos (sm_lt hn), if_neg (sm_1008 hn), h2]
    unfold wi1 wi2
    by_cases c2 : k 2 = 0
    · rw [if_pos c2, if_pos c2, if_neg (sm10 hn), if_neg (sm11 hn), if_neg (sm12 hn)]
      exact ⟨rfl, rfl, ⟨h0, h1, h2, h3, h4, h5⟩, hK, upd_B hM hv, hD, Or.inl rfl, rfl⟩
    · rw [if_neg c2, if_neg c2]
      by_cases c3 : nI n < (960 : Int32)
      · rw [if_pos c3, if_pos c3, if_neg (sm10 hn), if_neg (sm11 hn), if_neg (sm12 hn)]
        exact ⟨rfl, rfl, ⟨h0, h1, h2, h3, h4, h5⟩, hK, upd_B hM hv, hD, Or.inl rfl, rfl⟩
      · rw [if_neg c3, if_neg c3, if_neg (sm10 hn), if_neg (sm11 hn), if_neg (sm12 hn)]
        exact ⟨rfl, rfl, ⟨h0, h1, h2, h3, rfl, h5⟩, hK, hM, hD, Or.inr (Or.inl rfl), rfl⟩
  · rw [e]
    exact ⟨rfl, rfl, ⟨h0, h1, h2, h3, h4, h5⟩, hK, hM, hD, Or.inl rfl, rfl⟩
  · rw [e]
    exact ⟨rfl, rfl, ⟨h0, h1, h2, h3, h4, h5⟩, hK, hM, hD, Or.inl rfl, rfl⟩
  · rw [e]
    obtain ⟨j, hj, rfl⟩ := hv
    by_cases c8 : j < 8
    · have q1 : nI j ≤ (7 : Int32) := nI_le (b := 7) (by omega) (by decide)
      have q2 : nI j < (8 : Int32) := nI_lt (b := 8) c8 (by decide)
      simp only [f_B_writeCell, if_pos q1, if_pos q2, if_neg (show ¬ (1010 : Int32) < 1008 by decide), if_pos (show (1008 : Int32) ≤ 1010 by decide), if_true]
      exact ⟨rfl, rfl, ⟨h0, rfl, h2, h3, h4, h5⟩, ⟨hK.1, ⟨j, c8, rfl⟩, hK.2.2⟩, hM, hD, Or.inl (by first | rfl | trivial), rfl⟩
    · have q1 : ¬ nI j ≤ (7 : Int32) := nI_ge (a := 7) (by omega) (by omega)
      have q2 : ¬ nI j < (8 : Int32) := nI_nlt (b := 8) (by omega) (by omega)
      simp only [f_B_writeCell, if_neg q1, if_neg q2, if_neg (show ¬ (1010 : Int32) < 1008 by decide), if_pos (show (1008 : Int32) ≤ 1010 by decide), if_true]
      exact ⟨rfl, rfl, ⟨h0, h1, h2, h3, rfl, h5⟩, hK, hM, hD, Or.inr (Or.inr (by first | rfl | trivial)), rfl⟩
  · rw [e]
    have q := mul32 h1
    simp only [f_B_writeCell, wi1, wi2, if_neg (show ¬ (1011 : Int32) < 1008 by decide), if_pos (show (1008 : Int32) ≤ 1011 by decide), if_neg (show ¬ (1011 : Int32) = 1010 by decide), if_neg (show ¬ (1011 : Int32) = 1012 by decide), if_true, show (768 : Int32).toNatClampNeg = 768 from by decide, show (32 : Int32).toNatClampNeg = 32 from by decide, q]
    exact ⟨by first | rfl | trivial, by first | rfl | trivial, ⟨h0, h1, h2, h3, h4, h5⟩, hK, cpy_B hM hD, hD, Or.inl (by first | rfl | trivial), by first | rfl | trivial⟩
  · rw [e]
    have q := mul32 h1
    simp only [f_B_writeCell, wi1, wi2, if_neg (show ¬ (1012 : Int32) < 1008 by decide), if_pos (show (1008 : Int32) ≤ 1012 by decide), if_neg (show ¬ (1012 : Int32) = 1010 by decide), if_neg (show ¬ (1012 : Int32) = 1011 by decide), if_true, show (768 : Int32).toNatClampNeg = 768 from by decide, show (32 : Int32).toNatClampNeg = 32 from by decide, q]
    exact ⟨by first | rfl | trivial, by first | rfl | trivial, ⟨h0, h1, h2, h3, h4, h5⟩, hK, hM, cpy_B hD hM, Or.inl (by first | rfl | trivial), by first | rfl | trivial⟩
  · unfold wi1 wi2 f_B_writeCell
    rw [e, if_neg (bg_nlt hn1 hn2), if_pos (bg_1008 hn1 hn2), if_neg (bg10 hn1 hn2), if_neg (bg11 hn1 hn2), if_neg (bg12 hn1 hn2), if_neg (bg10 hn1 hn2), if_neg (bg11 hn1 hn2), if_neg (bg12 hn1 hn2)]
    exact ⟨rfl, rfl, ⟨h0, h1, h2, h3, h4, h5⟩, hK, hM, hD, Or.inl rfl, rfl⟩
