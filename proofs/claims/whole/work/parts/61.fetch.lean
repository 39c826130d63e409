/-! THE BYTES BEHIND A CODE, ON BOTH SIDES -/
def FRel (cm : Int32) (r : Nat → Int32) (F : (Nat → Int32) × (Nat → Int32)) (z : Int32 × (Nat → Int32) × (Nat → Int32)) (d f t : Int32) : Prop := EqF r F.1 ∧ F.1 4 = r 4 ∧ EqF r z.2.2 ∧ z.2.2 4 = F.1 11 ∧ isA (F.1 11) ∧ RK F.2 z.2.1 d f t ∧ OkK F.2 ∧ (¬ cm = 2 → F.1 10 = z.1 &&& 1023) ∧ (¬ cm = 9 → z.2.1 6 = F.1 9 ∧ isB (F.1 9))
theorem EqF.rf (r : Nat → Int32) : EqF r r := ⟨rfl, rfl, rfl, rfl, rfl, rfl, rfl, rfl⟩
theorem OkF.of {r m : Nat → Int32} (h : OkF r) (e : EqF r m) : OkF m := by
  obtain ⟨e0, e1, e2, e3, e5, e6, e7, e8⟩ := e
  unfold OkF
  rw [e0, e1, e2, e3, e5, e6, e7, e8]
  exact h
theorem EqF.two {r m n : Nat → Int32} (h1 : EqF r m) (h2 : EqF r n) : EqF m n := by
  obtain ⟨a0, a1, a2, a3, a5, a6, a7, a8⟩ := h1
  obtain ⟨b0, b1, b2, b3, b5, b6, b7, b8⟩ := h2
  exact ⟨b0.trans a0.symm, b1.trans a1.symm, b2.trans a2.symm, b3.trans a3.symm, b5.trans a5.symm, b6.trans a6.symm, b7.trans a7.symm, b8.trans a8.symm⟩
theorem FRel.rr {cm : Int32} {r : Nat → Int32} {F : (Nat → Int32) × (Nat → Int32)} {z : Int32 × (Nat → Int32) × (Nat → Int32)} {d f t : Int32} (h : FRel cm r F z d f t) (ho : OkF r) : RR F.1 z.2.2 := by
  obtain ⟨h1, -, h2, h3, h4, -⟩ := h
  exact ⟨h1.two h2, ho.of h1, h3, h4⟩
section
variable {r k u M D m : Nat → Int32} {d f t : Int32}
/-- one byte -/
theorem one_rel (hK : OkK k) (hM : AllB M) (h : RK k u d f t) (hm : m 4 = (r 4 + 1) &&& 1023) : (f_X_one u M m).1 6 = (f_B_readByte (r 4 + 1) k M D).1 ∧ isB (f_B_readByte (r 4 + 1) k M D).1 ∧ OkK (f_B_readByte (r 4 + 1) k M D).2 ∧ RK (f_B_readByte (r 4 + 1) k M D).2 (f_X_one u M m).1 d f t ∧ (f_X_one u M m).2 = upd m 4 ((r 4 + 1 + 1) &&& 1023) := by
  obtain ⟨a1, a2, a3, a4, -⟩ := read_rel (p := r 4 + 1) (D := D) hK hM h
  unfold f_X_one f_X_fetch
  rw [hm, xr_and, and_add_1023]
  exact ⟨a1, a2, a3, a4, rfl⟩
/-- two bytes -/
theorem two_rel (hK : OkK k) (hM : AllB M) (h : RK k u d f t) (hm : m 4 = (r 4 + 1) &&& 1023) : (f_X_two u M m).1 7 = (f_B_readByte (r 4 + 1) k M D).1 + 256 * (f_B_readByte (r 4 + 2) (f_B_readByte (r 4 + 1) k M D).2 M D).1 ∧ (f_X_two u M m).1 6 = (f_B_readByte (r 4 + 1) k M D).1 ∧ isB (f_B_readByte (r 4 + 1) k M D).1 ∧ OkK (f_B_readByte (r 4 + 2) (f_B_readByte (r 4 + 1) k M D).2 M D).2 ∧ RK (f_B_readByte (r 4 + 2) (f_B_readByte (r 4 + 1) k M D).2 M D).2 (f_X_two u M m).1 d f t ∧ (f_X_two u M m).2 = upd (upd m 4 ((r 4 + 1 + 1) &&& 1023)) 4 ((r 4 + 1 + 2) &&& 1023) := by
  obtain ⟨a1, a2, a3, a4, -⟩ := read_rel (p := r 4 + 1) (D := D) hK hM h
  have e2 : r 4 + 1 + 1 = r 4 + 2 := by rw [Int32.add_assoc]; rfl
  have e3 : r 4 + 2 + 1 = r 4 + 1 + 2 := by rw [Int32.add_assoc, Int32.add_assoc]; rfl
  obtain ⟨v, hv⟩ : ∃ v, v = (f_X_read (r 4 + 1) u M).1 := ⟨_, rfl⟩
  have a5 : RK (f_B_readByte (r 4 + 1) k M D).2 (upd (f_X_read (r 4 + 1) u M).2 6 v) d f t := a4
  obtain ⟨b1, b2, b3, b4, b5, -⟩ := read_rel (p := r 4 + 2) (D := D) a3 hM a5
  unfold f_X_two f_X_fetch
  rw [hm, xr_and, and_add_1023, e2]
  simp only [show ∀ x : Int32, upd m 4 x 4 = x from fun _ => rfl]
  rw [xr_and, and_add_1023, e3, ← hv]
  rw [← hv] at a1
  refine ⟨?_, ?_, a2, b3, b4, rfl⟩
  · show v + 256 * (f_X_read (r 4 + 2) (upd (f_X_read (r 4 + 1) u M).2 6 v) M).1 = _
    rw [b1, a1]
  · show (f_X_read (r 4 + 2) (upd (f_X_read (r 4 + 1) u M).2 6 v) M).2 6 = _
    rw [b5]
    exact a1
theorem low_and (p : Int32) : ∃ n : Nat, n < 256 ∧ p &&& 255 = nI n ∧ (p &&& 255) &&& 1023 = nI n := by
  obtain ⟨n, hn, e⟩ := and_isB p
  refine ⟨n, hn, e, ?_⟩
  rw [e]
  exact isA_and ⟨n, by omega, rfl⟩
theorem read_low (p : Int32) (u M : Nat → Int32) : f_X_read (p &&& 255) u M = (M (p &&& 255).toNatClampNeg, u) := by
  obtain ⟨n, hn, e, e2⟩ := low_and p
  unfold f_X_read
  rw [e2, if_neg (sm_1008 (by omega)), e]
theorem pair_eq (p : Int32) (u M : Nat → Int32) : f_X_pair p u M = (M (p &&& 255).toNatClampNeg + 256 * M ((p + 1) &&& 255).toNatClampNeg, u) := by
  unfold f_X_pair
  rw [read_low, read_low]
theorem and_255_255 (x : Int32) : (x &&& 255) &&& 255 = x &&& 255 := by
  rw [Int32.and_assoc]; rfl
theorem and_add_255 (x y : Int32) : ((x &&& 255) + y) &&& 255 = (x + y) &&& 255 := by
  rw [pk_and ((x &&& 255) + y) (m := 255) 8 (by decide), pk_and (x + y) (m := 255) 8 (by decide), pk_and x (m := 255) 8 (by decide)]
  rw [Int32.toBitVec_add, BitVec.toNat_add, Int32.toBitVec_add, BitVec.toNat_add, pk_tn (by omega)]
  congr 1
  omega
theorem isA_addr (x : Int32) : isA (f_P_address x) := and_isA x
/-- modes with one byte -/
theorem fr_one {cm E P : Int32} {F : (Nat → Int32) × (Nat → Int32)} {z : Int32 × (Nat → Int32) × (Nat → Int32)} (he : EqF r m) (hK : OkK k) (hM : AllB M) (h : RK k u d f t) (hm : m 4 = (r 4 + 1) &&& 1023)
    (hF : F = (upd (upd (upd r 9 (f_B_readByte (r 4 + 1) k M D).1) 10 (P &&& 1023)) 11 ((r 4 + 1 + 1) &&& 1023), (f_B_readByte (r 4 + 1) k M D).2)) (hz : z = (E, (f_X_one u M m).1, (f_X_one u M m).2)) (hE : ¬ cm = 2 → P = E) : FRel cm r F z d f t := by
  obtain ⟨a1, a2, a3, a4, a5⟩ := one_rel (D := D) hK hM h hm
  subst hF; subst hz
  rw [a5]
  exact ⟨EqF.rf r, rfl, he, rfl, and_isA _, a4, a3, fun q => by rw [← hE q]; rfl, fun _ => ⟨a1, a2⟩⟩
/-- modes with two bytes -/
theorem fr_two {cm E P : Int32} {F : (Nat → Int32) × (Nat → Int32)} {z : Int32 × (Nat → Int32) × (Nat → Int32)} (he : EqF r m) (hK : OkK k) (hM : AllB M) (h : RK k u d f t) (hm : m 4 = (r 4 + 1) &&& 1023)
    (hF : F = (upd (upd (upd r 9 (f_B_readByte (r 4 + 1) k M D).1) 10 (P &&& 1023)) 11 ((r 4 + 1 + 2) &&& 1023), (f_B_readByte (r 4 + 2) (f_B_readByte (r 4 + 1) k M D).2 M D).2)) (hz : z = (E, (f_X_two u M m).1, (f_X_two u M m).2)) (hE : P = E) : FRel cm r F z d f t := by
  obtain ⟨a0, a1, a2, a3, a4, a5⟩ := two_rel (D := D) hK hM h hm
  subst hF; subst hz
  rw [a5]
  exact ⟨EqF.rf r, rfl, he, rfl, and_isA _, a4, a3, fun q => by rw [← hE]; rfl, fun _ => ⟨a1, a2⟩⟩
theorem fr_NEXT (he : EqF r m) (hK : OkK k) (hM : AllB M) (h : RK k u d f t) (hm : m 4 = (r 4 + 1) &&& 1023) : FRel 2 r (f_P_fetch 2 r k M D) (f_X_address 0 u M m) d f t :=
  fr_one (D := D) (E := 0) (P := (f_B_readByte (r 4 + 1) k M D).1) he hK hM h hm rfl rfl (fun q => absurd rfl q)
theorem fr_ZERO (he : EqF r m) (hK : OkK k) (hM : AllB M) (h : RK k u d f t) (hm : m 4 = (r 4 + 1) &&& 1023) : FRel 1 r (f_P_fetch 1 r k M D) (f_X_address 1 u M m) d f t :=
  fr_one (D := D) (E := (f_X_one u M m).1 6) (P := (f_B_readByte (r 4 + 1) k M D).1) he hK hM h hm rfl rfl (fun _ => (one_rel (D := D) hK hM h hm).1.symm)
theorem fr_ZEROX (he : EqF r m) (hK : OkK k) (hM : AllB M) (h : RK k u d f t) (hm : m 4 = (r 4 + 1) &&& 1023) : FRel 5 r (f_P_fetch 5 r k M D) (f_X_address 2 u M m) d f t :=
  fr_one (D := D) (E := ((f_X_one u M m).1 6 + (f_X_one u M m).2 1) &&& 255) (P := ((f_B_readByte (r 4 + 1) k M D).1 + r 1) &&& 255) he hK hM h hm rfl rfl (fun _ => by
    obtain ⟨a1, -, -, -, a5⟩ := one_rel (D := D) hK hM h hm
    rw [a1, a5, show upd m 4 (r 4 + 1 + 1 &&& 1023) 1 = m 1 from rfl, he.2.1])
theorem fr_ZEROY (he : EqF r m) (hK : OkK k) (hM : AllB M) (h : RK k u d f t) (hm : m 4 = (r 4 + 1) &&& 1023) : FRel 8 r (f_P_fetch 8 r k M D) (f_X_address 3 u M m) d f t :=
  fr_one (D := D) (E := ((f_X_one u M m).1 6 + (f_X_one u M m).2 2) &&& 255) (P := ((f_B_readByte (r 4 + 1) k M D).1 + r 2) &&& 255) he hK hM h hm rfl rfl (fun _ => by
    obtain ⟨a1, -, -, -, a5⟩ := one_rel (D := D) hK hM h hm
    rw [a1, a5, show upd m 4 (r 4 + 1 + 1 &&& 1023) 2 = m 2 from rfl, he.2.2.1])
theorem fr_INX (he : EqF r m) (hK : OkK k) (hM : AllB M) (h : RK k u d f t) (hm : m 4 = (r 4 + 1) &&& 1023) : FRel 0 r (f_P_fetch 0 r k M D) (f_X_address 7 u M m) d f t :=
  fr_one (D := D) (E := (f_X_pair ((f_X_one u M m).1 6 + (f_X_one u M m).2 1) (f_X_one u M m).1 M).1) (P := f_P_wordAtZero (((f_B_readByte (r 4 + 1) k M D).1 + r 1) &&& 255) r k M D) he hK hM h hm rfl (by
    show (_, (f_X_pair ((f_X_one u M m).1 6 + (f_X_one u M m).2 1) (f_X_one u M m).1 M).2, _) = _
    rw [pair_eq]) (fun _ => by
    obtain ⟨a1, -, -, -, a5⟩ := one_rel (D := D) hK hM h hm
    rw [pair_eq, a1, a5, show upd m 4 (r 4 + 1 + 1 &&& 1023) 1 = m 1 from rfl, he.2.1]
    unfold f_P_wordAtZero
    rw [and_255_255, and_add_255])
theorem fr_INY (he : EqF r m) (hK : OkK k) (hM : AllB M) (h : RK k u d f t) (hm : m 4 = (r 4 + 1) &&& 1023) : FRel 4 r (f_P_fetch 4 r k M D) (f_X_address 8 u M m) d f t :=
  fr_one (D := D) (E := (f_X_pair ((f_X_one u M m).1 6) (f_X_one u M m).1 M).1 + (f_X_one u M m).2 2) (P := f_P_wordAtZero (f_B_readByte (r 4 + 1) k M D).1 r k M D + r 2) he hK hM h hm rfl (by
    show (_, (f_X_pair ((f_X_one u M m).1 6) (f_X_one u M m).1 M).2, _) = _
    rw [pair_eq]) (fun _ => by
    obtain ⟨a1, -, -, -, a5⟩ := one_rel (D := D) hK hM h hm
    rw [pair_eq, a1, a5, show upd m 4 (r 4 + 1 + 1 &&& 1023) 2 = m 2 from rfl, he.2.2.1]
    rfl)
theorem fr_WIDE (he : EqF r m) (hK : OkK k) (hM : AllB M) (h : RK k u d f t) (hm : m 4 = (r 4 + 1) &&& 1023) : FRel 3 r (f_P_fetch 3 r k M D) (f_X_address 4 u M m) d f t :=
  fr_two (D := D) (E := (f_X_two u M m).1 7) (P := (f_B_readByte (r 4 + 1) k M D).1 + 256 * (f_B_readByte (r 4 + 2) (f_B_readByte (r 4 + 1) k M D).2 M D).1) he hK hM h hm rfl rfl (two_rel (D := D) hK hM h hm).1.symm
theorem fr_WIDEX (he : EqF r m) (hK : OkK k) (hM : AllB M) (h : RK k u d f t) (hm : m 4 = (r 4 + 1) &&& 1023) : FRel 7 r (f_P_fetch 7 r k M D) (f_X_address 5 u M m) d f t :=
  fr_two (D := D) (E := (f_X_two u M m).1 7 + (f_X_two u M m).2 1) (P := (f_B_readByte (r 4 + 1) k M D).1 + 256 * (f_B_readByte (r 4 + 2) (f_B_readByte (r 4 + 1) k M D).2 M D).1 + r 1) he hK hM h hm rfl rfl (by
    obtain ⟨a1, -, -, -, -, a5⟩ := two_rel (D := D) hK hM h hm
    rw [a1, a5, show upd (upd m 4 (r 4 + 1 + 1 &&& 1023)) 4 (r 4 + 1 + 2 &&& 1023) 1 = m 1 from rfl, he.2.1])
theorem fr_WIDEY (he : EqF r m) (hK : OkK k) (hM : AllB M) (h : RK k u d f t) (hm : m 4 = (r 4 + 1) &&& 1023) : FRel 6 r (f_P_fetch 6 r k M D) (f_X_address 6 u M m) d f t :=
  fr_two (D := D) (E := (f_X_two u M m).1 7 + (f_X_two u M m).2 2) (P := (f_B_readByte (r 4 + 1) k M D).1 + 256 * (f_B_readByte (r 4 + 2) (f_B_readByte (r 4 + 1) k M D).2 M D).1 + r 2) he hK hM h hm rfl rfl (by
    obtain ⟨a1, -, -, -, -, a5⟩ := two_rel (D := D) hK hM h hm
    rw [a1, a5, show upd (upd m 4 (r 4 + 1 + 1 &&& 1023)) 4 (r 4 + 1 + 2 &&& 1023) 2 = m 2 from rfl, he.2.2.1])
theorem fr_SELF (he : EqF r m) (hK : OkK k) (h : RK k u d f t) (hm : m 4 = (r 4 + 1) &&& 1023) : FRel 9 r (f_P_fetch 9 r k M D) (f_X_address 9 u M m) d f t := by
  refine ⟨EqF.rf r, rfl, he, ?_, and_isA _, h, hK, fun _ => rfl, fun q => absurd rfl q⟩
  show m 4 = (r 4 + 1 + 0) &&& 1023
  rw [hm, Int32.add_zero]
theorem rr_ALONE (he : EqF r m) (ho : OkF r) (hm : m 4 = (r 4 + 1) &&& 1023) : RR (f_P_fetch 10 r k M D).1 m ∧ (f_P_fetch 10 r k M D).2 = k := by
  refine ⟨⟨he, ho, ?_, and_isA _⟩, rfl⟩
  show m 4 = (r 4 + 1 + 0) &&& 1023
  rw [hm, Int32.add_zero]
end
