/-! THE CALLS, ON BOTH SIDES -/
/-- the class and the reference between two calls -/
def Rel (g r k M D u m1 m2 m3 : Nat → Int32) : Prop := m1 = M ∧ m2 = D ∧ OkF r ∧ isA (r 4) ∧ EqF r m3 ∧ m3 4 = r 4 ∧ OkK k ∧ AllB M ∧ AllB D ∧ u 0 = k 0 ∧ u 1 = k 1 ∧ u 2 = k 2 ∧ u 3 = g 0 ∧ u 5 = g 1
theorem rel_0 : Rel zf rf zf zf zf zf zf zf rf := ⟨rfl, rfl, ⟨isB_0, isB_0, isB_0, ⟨255, by decide, rfl⟩, Or.inl rfl, Or.inl rfl, Or.inl rfl, Or.inl rfl⟩, ⟨512, by decide, rfl⟩, ⟨rfl, rfl, rfl, rfl, rfl, rfl, rfl, rfl⟩, rfl, ⟨isB_0, ⟨0, by decide, rfl⟩, Or.inl rfl⟩, fun _ => isB_0, fun _ => isB_0, rfl, rfl, rfl, rfl, rfl⟩
theorem raise_eq {x : Int32} (h : flt x) : x + 1 = nI (f_S_raise x) := by
  rcases h with rfl | rfl | rfl | rfl <;> rfl
theorem runs_rel : ∀ (n : Nat) (g r k u M D m3 m4 : Nat → Int32) (f : Int32), OkF r → isA (r 4) → EqF r m3 → m3 4 = r 4 → OkK k → AllB M → AllB D → RK k u (g 0) f (g 1) →
    crun_ok n r k M D ∧ xrun_ok n u M D m3 m4 ∧ (xrun n u M D m3 m4).2.1 8 = nI (crun n g r k M D).1 ∧ ((crun n g r k M D).1 = 0 → (xrun n u M D m3 m4).1 = (crun n g r k M D).2.1) ∧ Rel (crun n g r k M D).2.2.1 (crun n g r k M D).2.2.2.1 (crun n g r k M D).2.2.2.2.1 (crun n g r k M D).2.2.2.2.2.1 (crun n g r k M D).2.2.2.2.2.2 (xrun n u M D m3 m4).2.1 (xrun n u M D m3 m4).2.2.1 (xrun n u M D m3 m4).2.2.2.1 (xrun n u M D m3 m4).2.2.2.2.1 := by
  intro n
  induction n with
  | zero =>
    intro g r k u M D m3 m4 f ho hA he h4 hK hM hD h
    exact ⟨trivial, trivial, h.2.2.2.1.2, fun _ => h4, rfl, rfl, ho, hA, he, h4, hK, hM, hD, h.1, h.2.1, h.2.2.1, h.2.2.2.1.1, h.2.2.2.2.2⟩
  | succ n ih =>
    intro g r k u M D m3 m4 f ho hA he h4 hK hM hD h
    obtain ⟨a1, a2, a3, a4, a5, a6, a7, a8, a9, a10⟩ := step_rel (m4 := m4) ho hA he h4 hK hM hD h
    have hxs : xs_ok u := by
      obtain ⟨j, hj, e⟩ := hK.2.1
      exact ⟨j, hj, h.2.1.trans e⟩
    have hmem : mem_ok k M := ⟨fun j _ => hM j, hK.1⟩
    unfold crun_ok xrun_ok crun xrun
    obtain ⟨S, eS⟩ : ∃ S, S = f_P_step r k M D := ⟨_, rfl⟩
    obtain ⟨I, eI⟩ : ∃ I, I = f_X_instruction u M D m3 m4 := ⟨_, rfl⟩
    rw [← eS] at a1 a2 a3 a4 a5 a6 a7 a8 a9 a10
    rw [← eI] at a1 a2 a8 a9 a10
    rw [← eS, ← eI]
    rcases a10 with ⟨hz, hk⟩ | ⟨hz, hk⟩
    · have hu : I.1 4 = 0 := hk.2.2.2.2.1
      rw [if_pos hz, if_pos hu, a1, a2]
      obtain ⟨b1, b2, b3, b4, b5⟩ := ih (upd g 0 (g 0 + 1)) S.2.1 S.2.2.1 I.1 S.2.2.2.1 S.2.2.2.2 I.2.2.2.1 I.2.2.2.2 0 a6 a7 a8 a9 a3 a4 a5 hk
      exact ⟨⟨hK.2.1, hmem, fun _ => b1⟩, ⟨hxs, fun _ => b2⟩, b3, b4, b5⟩
    · have hnz : ¬ S.1 = 0 := by
        rcases hz with e | e | e | e <;> rw [e] <;> decide
      have hu : I.1 4 = S.1 := hk.2.2.2.2.1
      have hu2 : ¬ I.1 4 = 0 := fun q => hnz (hu.symm.trans q)
      rw [if_neg hnz, if_neg hu2]
      refine ⟨⟨hK.2.1, hmem, fun q => absurd q hnz⟩, ⟨hxs, fun q => absurd q hu2⟩, ?_, fun q => absurd q (raise_nz _), a1, a2, a6, a7, a8, a9, a3, a4, a5, hk.1, hk.2.1, hk.2.2.1, hk.2.2.2.1.1, hk.2.2.2.2.2⟩
      show I.1 4 + 1 = nI (f_S_raise S.1)
      rw [hu]
      exact raise_eq hz
theorem in_eq (x n : Int32) : f_X_in x 0 n = f_S_isWithin x n := rfl
theorem good_0 {c : Int32} {u : Nat → Int32} : (f_X_good 0 c u).2 = upd u 8 c := rfl
theorem good_1 {c : Int32} {u : Nat → Int32} : (f_X_good 1 c u).2 = upd u 8 0 := rfl
theorem good_z {b c : Int32} {u : Nat → Int32} (h : b = 0) : (f_X_good b c u).2 = upd u 8 c := by rw [h]; rfl
theorem good_n {b c : Int32} {u : Nat → Int32} (h : ¬ b = 0) : (f_X_good b c u).2 = upd u 8 0 := by
  unfold f_X_good
  rw [if_neg h]
section
variable {g r k M D u m1 m2 m3 m4 : Nat → Int32}
theorem run_rel {p1 : Int32} (h : Rel g r k M D u m1 m2 m3) : crun_ok p1.toNatClampNeg r k M D ∧ (¬ (f_X_in p1 (1 : Int32) (20 : Int32)) = (0 : Int32) → xrun_ok p1.toNatClampNeg (f_X_good (f_X_in p1 (1 : Int32) (20 : Int32)) (1 : Int32) u).2 m1 m2 m3 m4) ∧ (f_X_run p1 u m1 m2 m3 m4).2.1 8 = nI (f_S_run p1 g r k M D).1 ∧ ((f_S_run p1 g r k M D).1 = 0 → (f_X_run p1 u m1 m2 m3 m4).1 = (f_S_run p1 g r k M D).2.1) ∧ Rel (f_S_run p1 g r k M D).2.2.1 (f_S_run p1 g r k M D).2.2.2.1 (f_S_run p1 g r k M D).2.2.2.2.1 (f_S_run p1 g r k M D).2.2.2.2.2.1 (f_S_run p1 g r k M D).2.2.2.2.2.2 (f_X_run p1 u m1 m2 m3 m4).2.1 (f_X_run p1 u m1 m2 m3 m4).2.2.1 (f_X_run p1 u m1 m2 m3 m4).2.2.2.1 (f_X_run p1 u m1 m2 m3 m4).2.2.2.2.1 := by
  obtain ⟨rfl, rfl, ho, hA, he, h4, hK, hM, hD, e0, e1, e2, e3, e5⟩ := h
  obtain ⟨b1, b2, b3, b4, b5⟩ := runs_rel p1.toNatClampNeg g r k (upd u 8 0) m1 m2 m3 m4 (u 4) ho hA he h4 hK hM hD ⟨e0, e1, e2, ⟨e3, rfl⟩, rfl, e5⟩
  refine ⟨b1, fun qn => by rw [good_n qn]; exact b2, ?_⟩
  unfold f_X_run f_S_run
  by_cases c1 : p1 < (1 : Int32)
  · have q : f_X_in p1 1 20 = 0 := by unfold f_X_in; rw [if_pos c1]
    rw [if_pos c1, if_pos q, good_z q]
    exact ⟨rfl, fun z => absurd (show f_S_demand 0 = 0 from z) (by decide), rfl, rfl, ho, hA, he, h4, hK, hM, hD, e0, e1, e2, e3, e5⟩
  · rw [if_neg c1]
    by_cases c2 : (20 : Int32) < p1
    · have q : f_X_in p1 1 20 = 0 := by unfold f_X_in; rw [if_neg c1, if_pos c2]
      rw [if_pos c2, if_pos q, good_z q]
      exact ⟨rfl, fun z => absurd (show f_S_demand 0 = 0 from z) (by decide), rfl, rfl, ho, hA, he, h4, hK, hM, hD, e0, e1, e2, e3, e5⟩
    · have q : f_X_in p1 1 20 = 1 := by unfold f_X_in; rw [if_neg c1, if_neg c2]
      have qn : ¬ f_X_in p1 1 20 = 0 := by rw [q]; decide
      rw [if_neg c2, if_neg qn, good_n qn]
      exact ⟨b3, b4, b5⟩
theorem dem_z (b : Int32) (h : b = 0) : f_S_demand b = 1 := by rw [h]; rfl
theorem dem_n {b : Int32} (h : ¬ b = 0) : f_S_demand b = 0 := by unfold f_S_demand; rw [if_neg h]
theorem d1n0 {b : Int32} (h : b = 0) : ¬ f_S_demand b = 0 := by rw [dem_z b h]; decide
theorem peek_rel {p1 : Int32} (h : Rel g r k M D u m1 m2 m3) : (f_X_peek p1 u m1).2 8 = nI (f_S_peek p1 g r k M D).1 ∧ ((f_S_peek p1 g r k M D).1 = 0 → (f_X_peek p1 u m1).1 = (f_S_peek p1 g r k M D).2) ∧ Rel g r k M D (f_X_peek p1 u m1).2 m1 m2 m3 := by
  obtain ⟨rfl, rfl, hr⟩ := h
  unfold f_X_peek f_S_peek
  rw [in_eq]
  by_cases c : f_S_isWithin p1 1007 = 0
  · rw [if_pos c, if_neg (d1n0 c), good_z c, dem_z _ c]
    exact ⟨rfl, fun z => absurd z (by decide), rfl, rfl, hr⟩
  · rw [if_neg c, if_pos (dem_n c), good_n c]
    exact ⟨rfl, fun _ => rfl, rfl, rfl, hr⟩
theorem sector_rel {p1 p2 : Int32} (h : Rel g r k M D u m1 m2 m3) : (f_X_sector p1 p2 u m2).2 8 = nI (f_S_sector p1 p2 g r k M D).1 ∧ ((f_S_sector p1 p2 g r k M D).1 = 0 → (f_X_sector p1 p2 u m2).1 = (f_S_sector p1 p2 g r k M D).2) ∧ Rel g r k M D (f_X_sector p1 p2 u m2).2 m1 m2 m3 := by
  obtain ⟨rfl, rfl, hr⟩ := h
  unfold f_X_sector f_S_sector
  rw [in_eq, in_eq]
  by_cases c : f_S_isWithin p1 7 = 0
  · rw [if_pos c, if_pos c]
    exact ⟨rfl, fun z => absurd (show f_S_demand 0 = 0 from z) (by decide), rfl, rfl, hr⟩
  · rw [if_neg c, if_neg c]
    by_cases c2 : f_S_isWithin p2 31 = 0
    · rw [if_pos c2, if_pos c2]
      exact ⟨rfl, fun z => absurd (show f_S_demand 0 = 0 from z) (by decide), rfl, rfl, hr⟩
    · rw [if_neg c2, if_neg c2, Int32.mul_comm 32 p1]
      exact ⟨rfl, fun _ => rfl, rfl, rfl, hr⟩
theorem press_rel {p1 : Int32} (h : Rel g r k M D u m1 m2 m3) : (f_X_press p1 u).2 8 = nI (f_S_press p1 g r k M D).1 ∧ ((f_S_press p1 g r k M D).1 = 0 → (f_X_press p1 u).1 = (f_S_press p1 g r k M D).2.1) ∧ Rel g r (f_S_press p1 g r k M D).2.2 M D (f_X_press p1 u).2 m1 m2 m3 := by
  obtain ⟨rfl, rfl, ho, hA, he, h4, hK, hM, hD, e0, e1, e2, e3, e5⟩ := h
  unfold f_X_press f_S_press
  rw [in_eq]
  by_cases c : f_S_isWithin p1 127 = 0
  · rw [if_pos c, if_neg (d1n0 c), good_z c, dem_z _ c]
    exact ⟨rfl, fun z => absurd (show (1 : Nat) = 0 from z) (by decide), rfl, rfl, ho, hA, he, h4, hK, hM, hD, e0, e1, e2, e3, e5⟩
  · rw [if_neg c, if_pos (dem_n c), good_n c]
    have q : (upd u 8 0) 0 = k 0 := e0
    rw [q]
    by_cases c2 : k 0 = 0
    · rw [if_pos c2, if_pos c2]
      obtain ⟨j, hj, ej⟩ := wi_nat (n := 127) (by decide) c
      refine ⟨rfl, fun _ => rfl, rfl, rfl, ho, hA, he, h4, ⟨?_, hK.2.1, hK.2.2⟩, hM, hD, rfl, e1, e2, e3, e5⟩
      show isB ((128 : Int32) + p1)
      rw [ej, show (128 : Int32) = nI 128 from rfl, nI_add]
      exact ⟨_, by omega, rfl⟩
    · rw [if_neg c2, if_neg c2]
      exact ⟨rfl, fun z => absurd (show (2 : Nat) = 0 from z) (by decide), rfl, rfl, ho, hA, he, h4, hK, hM, hD, e0, e1, e2, e3, e5⟩
theorem protect_rel {p1 : Int32} (h : Rel g r k M D u m1 m2 m3) (hp : is01 p1) : (f_X_protect p1 u).1 = (f_S_protect p1 g r k M D).1 ∧ Rel g r (f_S_protect p1 g r k M D).2 M D (f_X_protect p1 u).2 m1 m2 m3 := by
  obtain ⟨rfl, rfl, ho, hA, he, h4, hK, hM, hD, e0, e1, e2, e3, e5⟩ := h
  exact ⟨e2, rfl, rfl, ho, hA, he, h4, ⟨hK.1, hK.2.1, hp⟩, hM, hD, e0, e1, rfl, e3, e5⟩
theorem EqF.rr {r m : Nat → Int32} (he : EqF r m) (ho : OkF r) : RR (upd r 11 0) (upd m 4 0) := ⟨he, ho, rfl, ⟨0, by decide, rfl⟩⟩
theorem st_rel9 (he : EqF r m3) (u : Nat → Int32) : f_X_status u m3 = f_P_flags r := by
  unfold f_X_status f_P_flags
  rw [he.2.2.2.2.1, he.2.2.2.2.2.1, he.2.2.2.2.2.2.1, he.2.2.2.2.2.2.2]
theorem n5 {p1 : Int32} (h : ¬ f_S_isWithin p1 5 = 0) : p1 = 0 ∨ p1 = 1 ∨ p1 = 2 ∨ p1 = 3 ∨ p1 = 4 ∨ p1 = 5 := by
  obtain ⟨j, hj, rfl⟩ := wi_nat (n := 5) (by decide) h
  rcases (show j = 0 ∨ j = 1 ∨ j = 2 ∨ j = 3 ∨ j = 4 ∨ j = 5 by omega) with rfl | rfl | rfl | rfl | rfl | rfl
  · exact Or.inl rfl
  · exact Or.inr (Or.inl rfl)
  · exact Or.inr (Or.inr (Or.inl rfl))
  · exact Or.inr (Or.inr (Or.inr (Or.inl rfl)))
  · exact Or.inr (Or.inr (Or.inr (Or.inr (Or.inl rfl))))
  · exact Or.inr (Or.inr (Or.inr (Or.inr (Or.inr rfl))))
theorem n9 {p1 : Int32} (h : ¬ f_S_isWithin p1 9 = 0) : p1 = 0 ∨ p1 = 1 ∨ p1 = 2 ∨ p1 = 3 ∨ p1 = 4 ∨ p1 = 5 ∨ p1 = 6 ∨ p1 = 7 ∨ p1 = 8 ∨ p1 = 9 := by
  obtain ⟨j, hj, rfl⟩ := wi_nat (n := 9) (by decide) h
  rcases (show j = 0 ∨ j = 1 ∨ j = 2 ∨ j = 3 ∨ j = 4 ∨ j = 5 ∨ j = 6 ∨ j = 7 ∨ j = 8 ∨ j = 9 by omega) with rfl | rfl | rfl | rfl | rfl | rfl | rfl | rfl | rfl | rfl
  · exact Or.inl rfl
  · exact Or.inr (Or.inl rfl)
  · exact Or.inr (Or.inr (Or.inl rfl))
  · exact Or.inr (Or.inr (Or.inr (Or.inl rfl)))
  · exact Or.inr (Or.inr (Or.inr (Or.inr (Or.inl rfl))))
  · exact Or.inr (Or.inr (Or.inr (Or.inr (Or.inr (Or.inl rfl)))))
  · exact Or.inr (Or.inr (Or.inr (Or.inr (Or.inr (Or.inr (Or.inl rfl))))))
  · exact Or.inr (Or.inr (Or.inr (Or.inr (Or.inr (Or.inr (Or.inr (Or.inl rfl)))))))
  · exact Or.inr (Or.inr (Or.inr (Or.inr (Or.inr (Or.inr (Or.inr (Or.inr (Or.inl rfl))))))))
  · exact Or.inr (Or.inr (Or.inr (Or.inr (Or.inr (Or.inr (Or.inr (Or.inr (Or.inr rfl))))))))
theorem get_rel {p1 : Int32} (h : Rel g r k M D u m1 m2 m3) : (f_X_get p1 u m3).2 8 = nI (f_S_get p1 g r k M D).1 ∧ ((f_S_get p1 g r k M D).1 = 0 → (f_X_get p1 u m3).1 = (f_S_get p1 g r k M D).2) ∧ Rel g r k M D (f_X_get p1 u m3).2 m1 m2 m3 := by
  obtain ⟨rfl, rfl, ho, hA, he, h4, hK, hM, hD, e0, e1, e2, e3, e5⟩ := h
  unfold f_X_get f_S_get
  rw [in_eq]
  by_cases c : f_S_isWithin p1 9 = 0
  · rw [if_pos c, if_neg (d1n0 c), good_z c, dem_z _ c]
    exact ⟨rfl, fun z => absurd (show (1 : Nat) = 0 from z) (by decide), rfl, rfl, ho, hA, he, h4, hK, hM, hD, e0, e1, e2, e3, e5⟩
  · rw [if_neg c, if_pos (dem_n c), good_n c]
    have hs := st_rel9 he (upd u 8 0)
    have hr : ∀ u', u' = upd u 8 0 → Rel g r k m1 m2 u' m1 m2 m3 := fun u' e => by rw [e]; exact ⟨rfl, rfl, ho, hA, he, h4, hK, hM, hD, e0, e1, e2, e3, e5⟩
    rcases n9 c with rfl | rfl | rfl | rfl | rfl | rfl | rfl | rfl | rfl | rfl
    · exact ⟨rfl, fun _ => he.1, hr _ rfl⟩
    · exact ⟨rfl, fun _ => he.2.1, hr _ rfl⟩
    · exact ⟨rfl, fun _ => he.2.2.1, hr _ rfl⟩
    · exact ⟨rfl, fun _ => he.2.2.2.1, hr _ rfl⟩
    · exact ⟨rfl, fun _ => h4, hr _ rfl⟩
    · exact ⟨rfl, fun _ => hs, hr _ rfl⟩
    · exact ⟨rfl, fun _ => e3, hr _ rfl⟩
    · exact ⟨rfl, fun _ => e0, hr _ rfl⟩
    · exact ⟨rfl, fun _ => e1, hr _ rfl⟩
    · exact ⟨rfl, fun _ => e5, hr _ rfl⟩
theorem put_rel {p1 p2 : Int32} (h : Rel g r k M D u m1 m2 m3) : (f_X_put p1 p2 u m3).2.1 8 = nI (f_S_put p1 p2 g r k M D).1 ∧ ((f_S_put p1 p2 g r k M D).1 = 0 → (f_X_put p1 p2 u m3).1 = (f_S_put p1 p2 g r k M D).2.1) ∧ Rel g (f_S_put p1 p2 g r k M D).2.2 k M D (f_X_put p1 p2 u m3).2.1 m1 m2 (f_X_put p1 p2 u m3).2.2 := by
  obtain ⟨rfl, rfl, ho, hA, he, h4, hK, hM, hD, e0, e1, e2, e3, e5⟩ := h
  have ho' := ho
  have he' := he
  obtain ⟨o0, o1, o2, o3, o5, o6, o7, o8⟩ := ho
  obtain ⟨q0, q1, q2, q3, q5, q6, q7, q8⟩ := he
  unfold f_X_put f_S_put
  rw [in_eq, in_eq, in_eq]
  by_cases c : f_S_isWithin p1 5 = 0
  · rw [if_pos c, if_neg (d1n0 c), dem_z _ c]
    exact ⟨rfl, fun z => absurd (show (1 : Nat) = 0 from z) (by decide), rfl, rfl, ho', hA, he', h4, hK, hM, hD, e0, e1, e2, e3, e5⟩
  · rw [if_neg c, if_pos (dem_n c)]
    rcases n5 c with rfl | rfl | rfl | rfl | rfl | rfl
    all_goals first | rw [if_neg (show ¬ _ = (4 : Int32) by decide), if_neg (show ¬ _ = (4 : Int32) by decide)] | rw [if_pos (show (4 : Int32) = 4 from rfl), if_pos (show (4 : Int32) = 4 from rfl)]
    · by_cases c2 : f_S_isWithin p2 255 = 0
      · rw [if_pos c2, if_neg (d1n0 c2), dem_z _ c2]
        exact ⟨rfl, fun z => absurd (show (1 : Nat) = 0 from z) (by decide), rfl, rfl, ho', hA, he', h4, hK, hM, hD, e0, e1, e2, e3, e5⟩
      · rw [if_neg c2, if_pos (dem_n c2)]
        obtain ⟨j, hj, ej⟩ := wi_nat (n := 255) (by decide) c2
        exact ⟨rfl, fun _ => q0, rfl, rfl, ⟨⟨j, by omega, ej⟩, o1, o2, o3, o5, o6, o7, o8⟩, hA, ⟨rfl, q1, q2, q3, q5, q6, q7, q8⟩, h4, hK, hM, hD, e0, e1, e2, e3, e5⟩
    · by_cases c2 : f_S_isWithin p2 255 = 0
      · rw [if_pos c2, if_neg (d1n0 c2), dem_z _ c2]
        exact ⟨rfl, fun z => absurd (show (1 : Nat) = 0 from z) (by decide), rfl, rfl, ho', hA, he', h4, hK, hM, hD, e0, e1, e2, e3, e5⟩
      · rw [if_neg c2, if_pos (dem_n c2)]
        obtain ⟨j, hj, ej⟩ := wi_nat (n := 255) (by decide) c2
        exact ⟨rfl, fun _ => q1, rfl, rfl, ⟨o0, ⟨j, by omega, ej⟩, o2, o3, o5, o6, o7, o8⟩, hA, ⟨q0, rfl, q2, q3, q5, q6, q7, q8⟩, h4, hK, hM, hD, e0, e1, e2, e3, e5⟩
    · by_cases c2 : f_S_isWithin p2 255 = 0
      · rw [if_pos c2, if_neg (d1n0 c2), dem_z _ c2]
        exact ⟨rfl, fun z => absurd (show (1 : Nat) = 0 from z) (by decide), rfl, rfl, ho', hA, he', h4, hK, hM, hD, e0, e1, e2, e3, e5⟩
      · rw [if_neg c2, if_pos (dem_n c2)]
        obtain ⟨j, hj, ej⟩ := wi_nat (n := 255) (by decide) c2
        exact ⟨rfl, fun _ => q2, rfl, rfl, ⟨o0, o1, ⟨j, by omega, ej⟩, o3, o5, o6, o7, o8⟩, hA, ⟨q0, q1, rfl, q3, q5, q6, q7, q8⟩, h4, hK, hM, hD, e0, e1, e2, e3, e5⟩
    · by_cases c2 : f_S_isWithin p2 255 = 0
      · rw [if_pos c2, if_neg (d1n0 c2), dem_z _ c2]
        exact ⟨rfl, fun z => absurd (show (1 : Nat) = 0 from z) (by decide), rfl, rfl, ho', hA, he', h4, hK, hM, hD, e0, e1, e2, e3, e5⟩
      · rw [if_neg c2, if_pos (dem_n c2)]
        obtain ⟨j, hj, ej⟩ := wi_nat (n := 255) (by decide) c2
        exact ⟨rfl, fun _ => q3, rfl, rfl, ⟨o0, o1, o2, ⟨j, by omega, ej⟩, o5, o6, o7, o8⟩, hA, ⟨q0, q1, q2, rfl, q5, q6, q7, q8⟩, h4, hK, hM, hD, e0, e1, e2, e3, e5⟩
    · by_cases c2 : f_S_isWithin p2 1023 = 0
      · rw [if_pos c2, if_neg (d1n0 c2), dem_z _ c2]
        exact ⟨rfl, fun z => absurd (show (1 : Nat) = 0 from z) (by decide), rfl, rfl, ho', hA, he', h4, hK, hM, hD, e0, e1, e2, e3, e5⟩
      · rw [if_neg c2, if_pos (dem_n c2)]
        obtain ⟨j, hj, ej⟩ := wi_nat (n := 1023) (by decide) c2
        exact ⟨rfl, fun _ => h4, rfl, rfl, ho', ⟨j, by omega, ej⟩, he', rfl, hK, hM, hD, e0, e1, e2, e3, e5⟩
    · by_cases c2 : f_S_isWithin p2 255 = 0
      · rw [if_pos c2, if_neg (d1n0 c2), dem_z _ c2]
        exact ⟨rfl, fun z => absurd (show (1 : Nat) = 0 from z) (by decide), rfl, rfl, ho', hA, he', h4, hK, hM, hD, e0, e1, e2, e3, e5⟩
      · rw [if_neg c2, if_pos (dem_n c2)]
        exact ⟨rfl, fun _ => st_rel9 he' (upd u 8 0), rfl, rfl, ⟨o0, o1, o2, o3, is01_and _, is01_and _, is01_and _, is01_and _⟩, hA, ⟨q0, q1, q2, q3, rfl, rfl, rfl, rfl⟩, h4, hK, hM, hD, e0, e1, e2, e3, e5⟩
end
