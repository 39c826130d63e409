/-! WHAT AN INSTRUCTION DOES TO THE REGISTERS, ON BOTH SIDES -/
theorem nq_and (a b : Nat) : nI a &&& nI b = nI (a &&& b) := by
  apply Int32.toBitVec_inj.mp
  show BitVec.ofNat 32 a &&& BitVec.ofNat 32 b = BitVec.ofNat 32 (a &&& b)
  exact (BitVec.ofNat_and ..).symm
theorem nq_xor (a b : Nat) : nI a ^^^ nI b = nI (a ^^^ b) := by
  apply Int32.toBitVec_inj.mp
  show BitVec.ofNat 32 a ^^^ BitVec.ofNat 32 b = BitVec.ofNat 32 (a ^^^ b)
  exact (BitVec.ofNat_xor ..).symm
theorem nq_or (a b : Nat) : nI a ||| nI b = nI (a ||| b) := by
  apply Int32.toBitVec_inj.mp
  show BitVec.ofNat 32 a ||| BitVec.ofNat 32 b = BitVec.ofNat 32 (a ||| b)
  exact (BitVec.ofNat_or ..).symm
theorem isB_or {x y : Int32} (hx : isB x) (hy : isB y) : isB (x ||| y) := by
  obtain ⟨a, ha, rfl⟩ := hx
  obtain ⟨b, hb, rfl⟩ := hy
  exact ⟨_, Nat.or_lt_two_pow (n := 8) ha hb, nq_or a b⟩
theorem isB_and2 {x y : Int32} (hx : isB x) (hy : isB y) : isB (x &&& y) := by
  obtain ⟨a, ha, rfl⟩ := hx
  obtain ⟨b, hb, rfl⟩ := hy
  exact ⟨_, Nat.and_lt_two_pow (n := 8) a hb, nq_and a b⟩
theorem isB_xor {x y : Int32} (hx : isB x) (hy : isB y) : isB (x ^^^ y) := by
  obtain ⟨a, ha, rfl⟩ := hx
  obtain ⟨b, hb, rfl⟩ := hy
  exact ⟨_, Nat.xor_lt_two_pow (n := 8) ha hb, nq_xor a b⟩
theorem is01_B {x : Int32} (h : is01 x) : isB x := by
  rcases h with rfl | rfl
  · exact ⟨0, by decide, rfl⟩
  · exact ⟨1, by decide, rfl⟩
theorem is01_and (x : Int32) : is01 (x &&& 1) := by
  obtain ⟨j, hj, e⟩ := pk_andE x (m := 1) 1 (by decide)
  rw [e]
  rcases (show j = 0 ∨ j = 1 by omega) with rfl | rfl
  · exact Or.inl rfl
  · exact Or.inr rfl
theorem shr7 {x : Int32} (h : isB x) : is01 (x >>> ((7 : Int32) &&& 31)) := by
  obtain ⟨n, hn, rfl⟩ := h
  rw [pk_shrN (by omega) _ 7 (by decide)]
  rcases (show n / 2 ^ 7 = 0 ∨ n / 2 ^ 7 = 1 by omega) with e | e <;> rw [e]
  · exact Or.inl rfl
  · exact Or.inr rfl
theorem and1_01 {x : Int32} (h : is01 x) : x &&& 1 = x := by
  rcases h with rfl | rfl <;> rfl
section
variable {r m u : Nat → Int32}
theorem set_rel {v : Int32} (h : RR r m) (hv : isB v) : RR (f_P_set v r).2 (f_X_set v u m) ∧ (f_P_set v r).1 = v := by
  obtain ⟨⟨h0, h1, h2, h3, h5, h6, h7, h8⟩, ⟨o0, o1, o2, o3, o5, o6, o7, o8⟩, h4, hA⟩ := h
  unfold f_P_set f_X_set
  by_cases c : v = 0
  · rw [if_pos c, if_pos c]
    exact ⟨⟨⟨h0, h1, h2, h3, rfl, h6, rfl, h8⟩, ⟨o0, o1, o2, o3, shr7 hv, o6, Or.inr rfl, o8⟩, h4, hA⟩, rfl⟩
  · rw [if_neg c, if_neg c]
    exact ⟨⟨⟨h0, h1, h2, h3, rfl, h6, rfl, h8⟩, ⟨o0, o1, o2, o3, shr7 hv, o6, Or.inl rfl, o8⟩, h4, hA⟩, rfl⟩
theorem rr_u0 {v : Int32} (h : RR r m) (hv : isB v) : RR (upd r 0 v) (upd m 0 v) := by
  obtain ⟨⟨h0, h1, h2, h3, h5, h6, h7, h8⟩, ⟨o0, o1, o2, o3, o5, o6, o7, o8⟩, h4, hA⟩ := h
  exact ⟨⟨rfl, h1, h2, h3, h5, h6, h7, h8⟩, ⟨hv, o1, o2, o3, o5, o6, o7, o8⟩, h4, hA⟩
theorem rr_u1 {v : Int32} (h : RR r m) (hv : isB v) : RR (upd r 1 v) (upd m 1 v) := by
  obtain ⟨⟨h0, h1, h2, h3, h5, h6, h7, h8⟩, ⟨o0, o1, o2, o3, o5, o6, o7, o8⟩, h4, hA⟩ := h
  exact ⟨⟨h0, rfl, h2, h3, h5, h6, h7, h8⟩, ⟨o0, hv, o2, o3, o5, o6, o7, o8⟩, h4, hA⟩
theorem rr_u2 {v : Int32} (h : RR r m) (hv : isB v) : RR (upd r 2 v) (upd m 2 v) := by
  obtain ⟨⟨h0, h1, h2, h3, h5, h6, h7, h8⟩, ⟨o0, o1, o2, o3, o5, o6, o7, o8⟩, h4, hA⟩ := h
  exact ⟨⟨h0, h1, rfl, h3, h5, h6, h7, h8⟩, ⟨o0, o1, hv, o3, o5, o6, o7, o8⟩, h4, hA⟩
theorem rr_u3 {v : Int32} (h : RR r m) (hv : isB v) : RR (upd r 3 v) (upd m 3 v) := by
  obtain ⟨⟨h0, h1, h2, h3, h5, h6, h7, h8⟩, ⟨o0, o1, o2, o3, o5, o6, o7, o8⟩, h4, hA⟩ := h
  exact ⟨⟨h0, h1, h2, rfl, h5, h6, h7, h8⟩, ⟨o0, o1, o2, hv, o5, o6, o7, o8⟩, h4, hA⟩
theorem rr_u4 {v : Int32} (h : RR r m) (hv : isA v) : RR (upd r 11 v) (upd m 4 v) := by
  obtain ⟨⟨h0, h1, h2, h3, h5, h6, h7, h8⟩, ⟨o0, o1, o2, o3, o5, o6, o7, o8⟩, h4, hA⟩ := h
  exact ⟨⟨h0, h1, h2, h3, h5, h6, h7, h8⟩, ⟨o0, o1, o2, o3, o5, o6, o7, o8⟩, rfl, hv⟩
theorem rr_u6 {v : Int32} (h : RR r m) (hv : is01 v) : RR (upd r 6 v) (upd m 6 v) := by
  obtain ⟨⟨h0, h1, h2, h3, h5, h6, h7, h8⟩, ⟨o0, o1, o2, o3, o5, o6, o7, o8⟩, h4, hA⟩ := h
  exact ⟨⟨h0, h1, h2, h3, h5, rfl, h7, h8⟩, ⟨o0, o1, o2, o3, o5, hv, o7, o8⟩, h4, hA⟩
theorem rr_u8 {v : Int32} (h : RR r m) (hv : is01 v) : RR (upd r 8 v) (upd m 8 v) := by
  obtain ⟨⟨h0, h1, h2, h3, h5, h6, h7, h8⟩, ⟨o0, o1, o2, o3, o5, o6, o7, o8⟩, h4, hA⟩ := h
  exact ⟨⟨h0, h1, h2, h3, h5, h6, h7, rfl⟩, ⟨o0, o1, o2, o3, o5, o6, o7, hv⟩, h4, hA⟩
/-- a register gets a byte, and the flags with it: the class sets the flags first -/
theorem put_rel0 {v p : Int32} (h : RR r m) (e : p &&& 255 = v) : RR (upd (f_P_set v r).2 0 (f_P_set v r).1) (f_X_put3 0 p 1 u m) := by
  have hv : isB v := e ▸ and_isB p
  have q : f_X_put3 0 p 1 u m = f_X_set (p &&& 255) u (upd m 0 (p &&& 255)) := rfl
  obtain ⟨⟨h0, h1, h2, h3, h5, h6, h7, h8⟩, ⟨o0, o1, o2, o3, o5, o6, o7, o8⟩, h4, hA⟩ := h
  rw [q, e]
  unfold f_P_set f_X_set
  by_cases c : v = 0
  · rw [if_pos c, if_pos c]
    exact ⟨⟨rfl, h1, h2, h3, rfl, h6, rfl, h8⟩, ⟨hv, o1, o2, o3, shr7 hv, o6, Or.inr rfl, o8⟩, h4, hA⟩
  · rw [if_neg c, if_neg c]
    exact ⟨⟨rfl, h1, h2, h3, rfl, h6, rfl, h8⟩, ⟨hv, o1, o2, o3, shr7 hv, o6, Or.inl rfl, o8⟩, h4, hA⟩
theorem put_rel1 {v p : Int32} (h : RR r m) (e : p &&& 255 = v) : RR (upd (f_P_set v r).2 1 (f_P_set v r).1) (f_X_put3 1 p 1 u m) := by
  have hv : isB v := e ▸ and_isB p
  have q : f_X_put3 1 p 1 u m = f_X_set (p &&& 255) u (upd m 1 (p &&& 255)) := rfl
  obtain ⟨⟨h0, h1, h2, h3, h5, h6, h7, h8⟩, ⟨o0, o1, o2, o3, o5, o6, o7, o8⟩, h4, hA⟩ := h
  rw [q, e]
  unfold f_P_set f_X_set
  by_cases c : v = 0
  · rw [if_pos c, if_pos c]
    exact ⟨⟨h0, rfl, h2, h3, rfl, h6, rfl, h8⟩, ⟨o0, hv, o2, o3, shr7 hv, o6, Or.inr rfl, o8⟩, h4, hA⟩
  · rw [if_neg c, if_neg c]
    exact ⟨⟨h0, rfl, h2, h3, rfl, h6, rfl, h8⟩, ⟨o0, hv, o2, o3, shr7 hv, o6, Or.inl rfl, o8⟩, h4, hA⟩
theorem put_rel2 {v p : Int32} (h : RR r m) (e : p &&& 255 = v) : RR (upd (f_P_set v r).2 2 (f_P_set v r).1) (f_X_put3 2 p 1 u m) := by
  have hv : isB v := e ▸ and_isB p
  have q : f_X_put3 2 p 1 u m = f_X_set (p &&& 255) u (upd m 2 (p &&& 255)) := rfl
  obtain ⟨⟨h0, h1, h2, h3, h5, h6, h7, h8⟩, ⟨o0, o1, o2, o3, o5, o6, o7, o8⟩, h4, hA⟩ := h
  rw [q, e]
  unfold f_P_set f_X_set
  by_cases c : v = 0
  · rw [if_pos c, if_pos c]
    exact ⟨⟨h0, h1, rfl, h3, rfl, h6, rfl, h8⟩, ⟨o0, o1, hv, o3, shr7 hv, o6, Or.inr rfl, o8⟩, h4, hA⟩
  · rw [if_neg c, if_neg c]
    exact ⟨⟨h0, h1, rfl, h3, rfl, h6, rfl, h8⟩, ⟨o0, o1, hv, o3, shr7 hv, o6, Or.inl rfl, o8⟩, h4, hA⟩
theorem cmp_rel {p q : Int32} (h : RR r m) : RR (f_P_compare p q r) (f_X_compare p q u m) := by
  unfold f_P_compare f_X_compare
  by_cases c : p < q
  · rw [if_pos c, if_pos c]
    exact (set_rel (rr_u8 h (Or.inl rfl)) (and_isB _)).1
  · rw [if_neg c, if_neg c]
    exact (set_rel (rr_u8 h (Or.inr rfl)) (and_isB _)).1
theorem bit7 : ∀ w : Fin 512, (nI w &&& 128 = 0 ∧ (nI w >>> ((7 : Int32) &&& 31)) &&& 1 = 0) ∨ (¬ nI w &&& 128 = 0 ∧ (nI w >>> ((7 : Int32) &&& 31)) &&& 1 = 1) := by decide +kernel
theorem add_rel {q : Int32} (h : RR r m) (hq : isB q) : RR (f_P_add q r) (f_X_add q u m) := by
  have hc := h
  obtain ⟨⟨h0, h1, h2, h3, h5, h6, h7, h8⟩, ⟨o0, o1, o2, o3, o5, o6, o7, o8⟩, h4, hA⟩ := hc
  obtain ⟨a, ha, ea⟩ := o0
  obtain ⟨b, hb, eb⟩ := hq
  obtain ⟨c, hc1, ec⟩ : ∃ c : Nat, c < 2 ∧ r 8 = nI c := by
    rcases o8 with e | e
    · exact ⟨0, by decide, e⟩
    · exact ⟨1, by decide, e⟩
  obtain ⟨s, es⟩ : ∃ s : Int32, s = r 0 + q + r 8 := ⟨_, rfl⟩
  have es2 : s = nI (a + b + c) := by rw [es, ea, eb, ec, nI_add, nI_add]
  have hw : ((r 0 ^^^ s) &&& (q ^^^ s)) = nI ((a ^^^ (a + b + c)) &&& (b ^^^ (a + b + c))) := by rw [ea, eb, es2, nq_xor, nq_xor, nq_and]
  have hw2 : ((a ^^^ (a + b + c)) &&& (b ^^^ (a + b + c))) < 512 := Nat.and_lt_two_pow (n := 9) _ (Nat.xor_lt_two_pow (n := 9) (by omega) (by omega))
  obtain ⟨w, ew⟩ : ∃ w : Nat, w = ((a ^^^ (a + b + c)) &&& (b ^^^ (a + b + c))) := ⟨_, rfl⟩
  rw [← ew] at hw hw2
  have hb7 := bit7 ⟨w, hw2⟩
  have hC : is01 (if s ≤ (255 : Int32) then (0 : Int32) else 1) := by split; exact Or.inl rfl; exact Or.inr rfl
  have hs8 : s >>> ((8 : Int32) &&& 31) = if s ≤ (255 : Int32) then (0 : Int32) else 1 := by
    rw [es2, pk_shrN (by omega) _ 8 (by decide)]
    by_cases q9 : a + b + c ≤ 255
    · rw [if_pos (show nI (a + b + c) ≤ (255 : Int32) from nI_le (b := 255) q9 (by decide)), show (a + b + c) / 2 ^ 8 = 0 by omega]; rfl
    · rw [if_neg (show ¬ nI (a + b + c) ≤ (255 : Int32) from nI_ge (a := 255) (by omega) (by omega)), show (a + b + c) / 2 ^ 8 = 1 by omega]; rfl
  have hL : f_P_add q r = upd (f_P_set (s &&& 255) (upd (upd r 6 ((((r 0 ^^^ s) &&& (q ^^^ s)) >>> ((7 : Int32) &&& 31)) &&& 1)) 8 (if s ≤ (255 : Int32) then (0 : Int32) else 1))).2 0 (f_P_set (s &&& 255) (upd (upd r 6 ((((r 0 ^^^ s) &&& (q ^^^ s)) >>> ((7 : Int32) &&& 31)) &&& 1)) 8 (if s ≤ (255 : Int32) then (0 : Int32) else 1))).1 := by
    unfold f_P_add
    rw [← es]
    split <;> rfl
  have hR : f_X_add q u m = f_X_put3 0 s 1 u (upd (upd m 6 (if ((r 0 ^^^ s) &&& (q ^^^ s)) &&& 128 = 0 then (0 : Int32) else 1)) 8 (s >>> ((8 : Int32) &&& 31))) := by
    unfold f_X_add
    rw [h0, h8, ← es]
    split <;> rfl
  rw [hL, hR, hs8, hw]
  rcases hb7 with ⟨e1, e2⟩ | ⟨e1, e2⟩
  · rw [if_pos e1, e2]
    exact put_rel0 (rr_u8 (rr_u6 h (Or.inl rfl)) hC) rfl
  · rw [if_neg e1, e2]
    exact put_rel0 (rr_u8 (rr_u6 h (Or.inr rfl)) hC) rfl
theorem inv255 {q : Int32} (h : isB q) : isB ((255 : Int32) - q) := by
  obtain ⟨n, hn, rfl⟩ := h
  exact ⟨255 - n, by omega, pk_sub (a := 255) (by omega)⟩
theorem dec255 : ∀ n : Fin 256, (nI n - 1) &&& 255 = (nI n + 255) &&& (255 : Int32) := by decide +kernel
/-- a shift or a step: the byte and the carry -/
theorem shf_rel {p v : Int32} (h : RR r m) (hv : isB v) (hp : p = 0 ∨ p = 1 ∨ p = 2 ∨ p = 3 ∨ p = 6 ∨ p = 7) : (f_X_shifted p v u m).1 = f_P_changed p v r ∧ isB (f_P_changed p v r) ∧ (f_X_shifted p v u m).2 = (if (1 : Int32) < p then (if (3 : Int32) < p then m else upd m 8 (v &&& 1)) else upd m 8 (v >>> ((7 : Int32) &&& 31))) := by
  obtain ⟨⟨h0, h1, h2, h3, h5, h6, h7, h8⟩, ⟨o0, o1, o2, o3, o5, o6, o7, o8⟩, h4, hA⟩ := h
  rcases hp with rfl | rfl | rfl | rfl | rfl | rfl
  · refine ⟨?_, and_isB _, rfl⟩
    show ((2 : Int32) * v + 0) &&& 255 = ((2 : Int32) * v) &&& 255
    rw [Int32.add_zero]
  · refine ⟨?_, and_isB _, rfl⟩
    show ((2 : Int32) * v + m 8) &&& 255 = ((2 : Int32) * v + r 8) &&& 255
    rw [h8]
  · refine ⟨?_, ?_, rfl⟩
    · show v / (2 : Int32) + 0 = v / (2 : Int32)
      rw [Int32.add_zero]
    · obtain ⟨n, hn, rfl⟩ := hv
      show isB (nI n / nI 2)
      exact ⟨n / 2, by omega, pk_div (by omega) (by decide) (by decide)⟩
  · refine ⟨?_, ?_, rfl⟩
    · show v / (2 : Int32) + (128 : Int32) * m 8 = v / (2 : Int32) + (128 : Int32) * r 8
      rw [h8]
    · obtain ⟨n, hn, rfl⟩ := hv
      show isB (nI n / nI 2 + nI 128 * r 8)
      rw [pk_div (by omega) (by decide) (by decide)]
      rcases o8 with e | e <;> rw [e]
      · rw [show (0 : Int32) = nI 0 from rfl, pk_mul, nI_add]
        exact ⟨_, by omega, rfl⟩
      · rw [show (1 : Int32) = nI 1 from rfl, pk_mul, nI_add]
        exact ⟨_, by omega, rfl⟩
  · refine ⟨?_, and_isB _, rfl⟩
    obtain ⟨n, hn, rfl⟩ := hv
    exact (dec255 ⟨n, hn⟩).symm
  · exact ⟨rfl, and_isB _, rfl⟩
theorem st_rel (h : RR r m) : f_X_status u m = f_P_flags r ∧ isB (f_P_flags r) := by
  obtain ⟨⟨h0, h1, h2, h3, h5, h6, h7, h8⟩, ⟨o0, o1, o2, o3, o5, o6, o7, o8⟩, h4, hA⟩ := h
  refine ⟨?_, ?_⟩
  · unfold f_X_status f_P_flags
    rw [h5, h6, h7, h8]
  · unfold f_P_flags
    have : ∀ a b c d : Fin 2, isB ((128 : Int32) * nI a + (64 : Int32) * nI b + 48 + (2 : Int32) * nI c + nI d) := by
      intro a b c d
      rw [show (128 : Int32) = nI 128 from rfl, show (64 : Int32) = nI 64 from rfl, show (48 : Int32) = nI 48 from rfl, show (2 : Int32) = nI 2 from rfl, pk_mul, pk_mul, pk_mul, nI_add, nI_add, nI_add, nI_add]
      exact ⟨_, by omega, rfl⟩
    have f2 : ∀ {x : Int32}, is01 x → ∃ a : Fin 2, x = nI a := fun hx => by
      rcases hx with e | e
      · exact ⟨0, e⟩
      · exact ⟨1, e⟩
    obtain ⟨a, ea⟩ := f2 o5
    obtain ⟨b, eb⟩ := f2 o6
    obtain ⟨c, ec⟩ := f2 o7
    obtain ⟨d, ed⟩ := f2 o8
    rw [ea, eb, ec, ed]
    exact this a b c d
theorem ss_rel {p : Int32} (h : RR r m) : RR (f_P_setFlags p r) (f_X_setStatus p u m) := by
  obtain ⟨⟨h0, h1, h2, h3, h5, h6, h7, h8⟩, ⟨o0, o1, o2, o3, o5, o6, o7, o8⟩, h4, hA⟩ := h
  exact ⟨⟨h0, h1, h2, h3, rfl, rfl, rfl, rfl⟩, ⟨o0, o1, o2, o3, is01_and _, is01_and _, is01_and _, is01_and _⟩, h4, hA⟩
end
