/-! load and insert, on both sides -/
theorem lo_cu : ∀ q : Fin 8, ((nI (8 * q.val)).toInt64.toUInt64 &&& Int64.toUInt64 63) = UInt64.ofNat (8 * q.val) ∧ (UInt64.ofNat (8 * q.val)).toNat = 8 * q.val ∧ (((nI (8 * q.val)).toInt64 &&& 63).toBitVec.smod 64).toNat = 8 * q.val := by decide +kernel
theorem to32_and (a : Int64) : a.toInt32 &&& 255 = nI (a.toBitVec.toNat % 256) := by
  rw [pk_and _ (m := 255) 8 (by decide), Int64.toBitVec_toInt32, BitVec.signExtend_eq_setWidth_of_le _ (by decide), BitVec.toNat_setWidth]
  congr 1
  omega
theorem sh_same (x : Int64) (q : Fin 8) : ((x.toUInt64 >>> ((nI (8 * q.val)).toInt64.toUInt64 &&& Int64.toUInt64 63)).toInt64).toInt32 &&& 255 = (x >>> ((nI (8 * q.val)).toInt64 &&& 63)).toInt32 &&& 255 := by
  obtain ⟨h1, h2, h3⟩ := lo_cu q
  rw [to32_and, to32_and, h1]
  have a1 : ((x.toUInt64 >>> UInt64.ofNat (8 * q.val)).toInt64).toBitVec.toNat = x.toBitVec.toNat / 2 ^ (8 * q.val) := by
    show (x.toUInt64 >>> UInt64.ofNat (8 * q.val)).toNat = _
    rw [UInt64.toNat_shiftRight, h2, Nat.shiftRight_eq_div_pow, Nat.mod_eq_of_lt (by omega)]
    rfl
  have a2 : (x >>> ((nI (8 * q.val)).toInt64 &&& 63)).toBitVec.toInt = x.toBitVec.toInt >>> (8 * q.val) := by
    show (x.toBitVec.sshiftRight (((nI (8 * q.val)).toInt64 &&& 63).toBitVec.smod 64).toNat).toInt = _
    rw [h3, BitVec.toInt_sshiftRight]
  rw [a1]
  have b1 := BitVec.toInt_eq_toNat_bmod x.toBitVec
  have b2 := BitVec.toInt_eq_toNat_cond x.toBitVec
  have b3 := BitVec.toInt_eq_toNat_cond (x >>> ((nI (8 * q.val)).toInt64 &&& 63)).toBitVec
  rw [a2, Int.shiftRight_eq_div_pow] at b3
  generalize (x >>> ((nI (8 * q.val)).toInt64 &&& 63)).toBitVec.toNat = A at b3 ⊢
  rw [b2] at b3
  have hx := x.toBitVec.isLt
  generalize x.toBitVec.toNat = X at b3 hx ⊢
  congr 1
  match q with
  | ⟨0, _⟩ => simp only [Nat.mul_zero, Nat.pow_zero, Nat.div_one] at b3 ⊢; split at b3 <;> split at b3 <;> omega
  | ⟨1, _⟩ => simp only [Nat.mul_one] at b3 ⊢; split at b3 <;> split at b3 <;> omega
  | ⟨2, _⟩ => simp only [Nat.reduceMul] at b3 ⊢; split at b3 <;> split at b3 <;> omega
  | ⟨3, _⟩ => simp only [Nat.reduceMul] at b3 ⊢; split at b3 <;> split at b3 <;> omega
  | ⟨4, _⟩ => simp only [Nat.reduceMul] at b3 ⊢; split at b3 <;> split at b3 <;> omega
  | ⟨5, _⟩ => simp only [Nat.reduceMul] at b3 ⊢; split at b3 <;> split at b3 <;> omega
  | ⟨6, _⟩ => simp only [Nat.reduceMul] at b3 ⊢; split at b3 <;> split at b3 <;> omega
  | ⟨7, _⟩ => simp only [Nat.reduceMul] at b3 ⊢; split at b3 <;> split at b3 <;> omega
theorem spr_congr {ix ix' : Nat → Nat} {v v' : Nat → Int32} {f : Nat → Int32} : ∀ n : Nat, (∀ j, j < n → ix j = ix' j ∧ v j = v' j) → spr ix v n f = spr ix' v' n f
  | 0, _ => rfl
  | n + 1, h => by
    show upd (spr ix v n f) (ix n) (v n) = upd (spr ix' v' n f) (ix' n) (v' n)
    rw [(h n (by omega)).1, (h n (by omega)).2, spr_congr n (fun j hj => h j (by omega))]
theorem spr_B {ix : Nat → Nat} {v : Nat → Int32} {f : Nat → Int32} (hf : AllB f) (hv : ∀ j, isB (v j)) : ∀ n : Nat, AllB (spr ix v n f)
  | 0 => hf
  | n + 1 => upd_B (spr_B hf hv n) (hv n)
theorem sp_v {n : Nat} (h1 : 1 ≤ n) (h8 : n ≤ 8) {j : Nat} (hj : j < n) : ∃ q : Fin 8, (8 : Int32) * ((nI n - (1 : Int32)) - nI j) = nI (8 * q.val) := by
  refine ⟨⟨n - 1 - j, by omega⟩, ?_⟩
  rw [show (1 : Int32) = nI 1 from rfl, pk_sub (by omega), pk_sub (by omega), show (8 : Int32) = nI 8 from rfl, pk_mul]
/-- the bytes laid down are the same -/
theorem spread_eq {a a' : Int32} {p : Int64} {c : Int32} {f : Nat → Int32} (he : a' = a) (h1 : ¬ c < (1 : Int32)) (h2 : ¬ (8 : Int32) < c) : spr (fun j : Nat => (a' + (nI j)).toNatClampNeg) (fun j : Nat => (((p >>> (((8 : Int32) * ((c - (1 : Int32)) - (nI j))).toInt64 &&& 63)).toInt32) &&& (255 : Int32))) c.toNatClampNeg f = f_S_spread a p c f := by
  obtain ⟨n, q1, q8, rfl⟩ := nat_1_8 h1 h2
  unfold f_S_spread
  subst he
  refine spr_congr _ (fun j hj => ⟨rfl, ?_⟩)
  rw [nI_clamp (by omega)] at hj
  obtain ⟨q, e⟩ := sp_v q1 q8 hj
  rw [e]
  exact (sh_same p q).symm
theorem spread_B {a c : Int32} {p : Int64} {f : Nat → Int32} (h : AllB f) : AllB (f_S_spread a p c f) := by
  unfold f_S_spread
  exact spr_B h (fun j => and_isB _) _
section
variable {g r k M D u m1 m2 m3 : Nat → Int32}
theorem load_rel {p1 : Int32} {p2 : Int64} {p3 : Int32} (h : Rel g r k M D u m1 m2 m3) : (f_X_load p1 p2 p3 u m1).2.1 8 = nI (f_S_load p1 p2 p3 g r k M D).1 ∧ ((f_S_load p1 p2 p3 g r k M D).1 = 0 → (f_X_load p1 p2 p3 u m1).1 = (f_S_load p1 p2 p3 g r k M D).2.1) ∧ Rel g r k (f_S_load p1 p2 p3 g r k M D).2.2 D (f_X_load p1 p2 p3 u m1).2.1 (f_X_load p1 p2 p3 u m1).2.2 m2 m3 := by
  obtain ⟨rfl, rfl, ho, hA, he, h4, hK, hM, hD, e0, e1, e2, e3, e5⟩ := h
  have bad : f_S_isSpan p1 p3 1008 = 0 → f_S_load p1 p2 p3 g r k m1 m2 = (1, 0, m1) := fun q => by
    unfold f_S_load
    rw [if_neg (d1n0 q), dem_z _ q]
  have hr : Rel g r k m1 m2 (upd u 8 1) m1 m2 m3 := ⟨rfl, rfl, ho, hA, he, h4, hK, hM, hD, e0, e1, e2, e3, e5⟩
  unfold f_X_load
  rw [in_eq]
  by_cases c1 : f_S_isWithin p1 1007 = 0
  · rw [bad (by unfold f_S_isSpan; rw [show (1008 : Int32) - 1 = 1007 from by decide, if_pos c1]), if_pos c1]
    exact ⟨rfl, fun z => absurd (show (1 : Nat) = 0 from z) (by decide), hr⟩
  rw [if_neg c1]
  by_cases c2 : p3 < (1 : Int32)
  · rw [bad (by unfold f_S_isSpan; rw [show (1008 : Int32) - 1 = 1007 from by decide, if_neg c1, if_pos c2]), if_pos (by unfold f_X_in; rw [if_pos c2])]
    exact ⟨rfl, fun z => absurd (show (1 : Nat) = 0 from z) (by decide), hr⟩
  by_cases c3 : (8 : Int32) < p3
  · rw [bad (by unfold f_S_isSpan; rw [show (1008 : Int32) - 1 = 1007 from by decide, if_neg c1, if_neg c2, if_pos c3]), if_pos (by unfold f_X_in; rw [if_neg c2, if_pos c3])]
    exact ⟨rfl, fun z => absurd (show (1 : Nat) = 0 from z) (by decide), hr⟩
  rw [if_neg (by unfold f_X_in; rw [if_neg c2, if_neg c3]; decide)]
  by_cases c4 : (1008 : Int32) < p1 + p3
  · rw [bad (by unfold f_S_isSpan; rw [show (1008 : Int32) - 1 = 1007 from by decide, if_neg c1, if_neg c2, if_neg c3, if_pos c4]), if_pos c4]
    exact ⟨rfl, fun z => absurd (show (1 : Nat) = 0 from z) (by decide), hr⟩
  have q : ¬ f_S_isSpan p1 p3 1008 = 0 := by
    unfold f_S_isSpan
    rw [show (1008 : Int32) - 1 = 1007 from by decide, if_neg c1, if_neg c2, if_neg c3, if_neg c4]
    decide
  unfold f_S_load
  rw [if_neg c4, if_pos (dem_n q), spread_eq rfl c2 c3]
  exact ⟨rfl, fun _ => rfl, rfl, rfl, ho, hA, he, h4, hK, spread_B hM, hD, e0, e1, e2, e3, e5⟩
theorem insert_rel {p1 p2 : Int32} {p3 : Int64} {p4 : Int32} (h : Rel g r k M D u m1 m2 m3) : (f_X_insert p1 p2 p3 p4 u m2).2.1 8 = nI (f_S_insert p1 p2 p3 p4 g r k M D).1 ∧ ((f_S_insert p1 p2 p3 p4 g r k M D).1 = 0 → (f_X_insert p1 p2 p3 p4 u m2).1 = (f_S_insert p1 p2 p3 p4 g r k M D).2.1) ∧ Rel g r k M (f_S_insert p1 p2 p3 p4 g r k M D).2.2 (f_X_insert p1 p2 p3 p4 u m2).2.1 m1 (f_X_insert p1 p2 p3 p4 u m2).2.2 m3 := by
  obtain ⟨rfl, rfl, ho, hA, he, h4, hK, hM, hD, e0, e1, e2, e3, e5⟩ := h
  have hr : Rel g r k m1 m2 (upd u 8 1) m1 m2 m3 := ⟨rfl, rfl, ho, hA, he, h4, hK, hM, hD, e0, e1, e2, e3, e5⟩
  unfold f_X_insert f_S_insert
  rw [in_eq, in_eq]
  by_cases c0 : f_S_isWithin p1 7 = 0
  · rw [if_pos c0, if_pos c0]
    exact ⟨rfl, fun z => absurd (show f_S_demand 0 = 0 from z) (by decide), hr⟩
  rw [if_neg c0, if_neg c0]
  have bad : f_S_isSpan p2 p4 32 = 0 → (if f_S_isSpan p2 p4 32 = 0 then (f_S_demand 0, (0 : Int32), m2) else (0, p2 + p4, f_S_spread (p1 * 32 + p2) p3 p4 m2)) = (1, 0, m2) := fun q => by
    rw [if_pos q]; rfl
  by_cases c1 : f_S_isWithin p2 31 = 0
  · rw [bad (by unfold f_S_isSpan; rw [show (32 : Int32) - 1 = 31 from by decide, if_pos c1]), if_pos c1]
    exact ⟨rfl, fun z => absurd (show (1 : Nat) = 0 from z) (by decide), hr⟩
  rw [if_neg c1]
  by_cases c2 : p4 < (1 : Int32)
  · rw [bad (by unfold f_S_isSpan; rw [show (32 : Int32) - 1 = 31 from by decide, if_neg c1, if_pos c2]), if_pos (by unfold f_X_in; rw [if_pos c2])]
    exact ⟨rfl, fun z => absurd (show (1 : Nat) = 0 from z) (by decide), hr⟩
  by_cases c3 : (8 : Int32) < p4
  · rw [bad (by unfold f_S_isSpan; rw [show (32 : Int32) - 1 = 31 from by decide, if_neg c1, if_neg c2, if_pos c3]), if_pos (by unfold f_X_in; rw [if_neg c2, if_pos c3])]
    exact ⟨rfl, fun z => absurd (show (1 : Nat) = 0 from z) (by decide), hr⟩
  rw [if_neg (by unfold f_X_in; rw [if_neg c2, if_neg c3]; decide)]
  by_cases c4 : (32 : Int32) < p2 + p4
  · rw [bad (by unfold f_S_isSpan; rw [show (32 : Int32) - 1 = 31 from by decide, if_neg c1, if_neg c2, if_neg c3, if_pos c4]), if_pos c4]
    exact ⟨rfl, fun z => absurd (show (1 : Nat) = 0 from z) (by decide), hr⟩
  have q : ¬ f_S_isSpan p2 p4 32 = 0 := by
    unfold f_S_isSpan
    rw [show (32 : Int32) - 1 = 31 from by decide, if_neg c1, if_neg c2, if_neg c3, if_neg c4]
    decide
  rw [if_neg c4, if_neg q, spread_eq (by rw [Int32.mul_comm]) c2 c3]
  exact ⟨rfl, fun _ => rfl, rfl, rfl, ho, hA, he, h4, hK, hM, spread_B hD, e0, e1, e2, e3, e5⟩
end
