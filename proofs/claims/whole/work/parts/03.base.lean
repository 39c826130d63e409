/-! THE BASE: the words that every method shares, what every contract carries, heads, calls -/
/-- all words of the tables that stay good -/
def BIG : List Cond := lw_tbl.filter goodWord
theorem big_of {w : Cond} (h : w ∈ lw_tbl) (hg : goodWord w = true) : w ∈ BIG := List.mem_filter.mpr ⟨h, hg⟩
theorem big_tbl {w : Cond} (h : w ∈ BIG) : w ∈ lw_tbl := (List.mem_filter.mp h).1
theorem big_good {w : Cond} (h : w ∈ BIG) : w ∈ BIG ∧ ((w.onTables && w.keeps) = true ∨ ∃ ty, w = .arrayClass ty) := ⟨h, good_of_word (List.mem_filter.mp h).2⟩
theorem gd_c {c : Cond} (h : c ∈ BIG) : GoodIn BIG (c :: BIG) := fun w hw => (List.mem_cons.mp hw).elim (fun e => by rw [e]; exact big_good h) (fun h => big_good h)
theorem gd_V {own C : String} {idx : Nat} {y : MethodName} {c : Cond} (h1 : Cond.methodLink own idx y ∈ BIG) (h2 : Cond.instanceMethod y ∈ BIG) (h3 : Cond.selects C y y ∈ BIG) (h4 : Cond.initialized C ∈ BIG) (h5 : c ∈ BIG) : GoodIn BIG (wsV own idx C y (c :: BIG)) := by
  intro w hw
  unfold wsV at hw
  rcases List.mem_append.mp hw with h | h
  · simp only [List.mem_cons, List.not_mem_nil, or_false] at h
    rcases h with rfl | rfl | rfl | rfl
    · exact big_good h1
    · exact big_good h2
    · exact big_good h3
    · exact big_good h4
  · exact gd_c h5 w h
theorem gd_S {own : String} {idx : Nat} {y : MethodName} {c : Cond} (h1 : Cond.methodLink own idx y ∈ BIG) (h2 : Cond.static y ∈ BIG) (h3 : Cond.initialized own ∈ BIG) (h5 : c ∈ BIG) : GoodIn BIG (wsS own idx y (c :: BIG)) := by
  intro w hw
  unfold wsS at hw
  rcases List.mem_append.mp hw with h | h
  · simp only [List.mem_cons, List.not_mem_nil, or_false] at h
    rcases h with rfl | rfl | rfl
    · exact big_good h1
    · exact big_good h2
    · exact big_good h3
  · exact gd_c h5 w h
/-- words that the tables decide and that aren't good: carried by themselves -/
def enOK : Cond → Bool
  | .fieldLinkNest .. => true
  | .methodLinkNest .. => true
  | .castable .. => true
  | .declares .. => true
  | _ => false
theorem enOK_warm {w : Cond} (h : enOK w = true) {s U : State} (hW : s.WarmedH U.vm) (hZ : va_Nw w s) : va_Nw w U := by
  cases w <;> first | exact va_Nw.warmF hW hZ | exact va_Nw.warmM hW hZ | exact va_Nw.warmC hW hZ | exact va_Nw.warmD hW hZ | (simp [enOK] at h)
theorem enOK_tab {w : Cond} (h : enOK w = true) : w.onTables = true := by
  cases w <;> first | rfl | (simp [enOK] at h)
def enW : List Cond := lw_tbl.filter enOK
theorem enW_ok (w : Cond) (h : w ∈ enW) : enOK w = true := (List.mem_filter.mp h).2
def enNc : List (String × String) := [("java/lang/IllegalStateException", "java/lang/IllegalArgumentException"), ("java/lang/UnsupportedOperationException", "java/lang/IllegalArgumentException"), ("java/lang/IndexOutOfBoundsException", "java/lang/IllegalArgumentException"), ("java/util/NoSuchElementException", "java/lang/IllegalArgumentException"), ("java/lang/UnsupportedOperationException", "java/lang/IllegalStateException"), ("java/lang/IndexOutOfBoundsException", "java/lang/IllegalStateException"), ("java/util/NoSuchElementException", "java/lang/IllegalStateException"), ("java/lang/IndexOutOfBoundsException", "java/lang/UnsupportedOperationException"), ("java/util/NoSuchElementException", "java/lang/UnsupportedOperationException"), ("java/util/NoSuchElementException", "java/lang/IndexOutOfBoundsException")]
def enR : List (String × Nat × String) := [("SixtyFive", 91, "a number is out of range"), ("SixtyFive", 66, "there is a key"), ("SixtyFive", 94, "code 0"), ("SixtyFive", 98, "a write into protected memory"), ("SixtyFive", 103, "no such sector"), ("SixtyFive", 108, "no such instruction")]
def exS : List String := ["java/lang/RuntimeException", "java/lang/Exception"]
/-- the class's two tables -/
def tg0 : List Int32 := [11, 11, 10, 11, 2, 11, 10, 11, 3, 1, 10, 3, 2, 11, 10, 11, 11, 11, 10, 3, 2, 11, 11, 11, 10, 11, 10, 3, 2, 11, 11, 11, 11, 1, 10, 3, 2, 5, 10, 11, 2, 1, 10, 3, 2, 5, 10, 7, 2, 1, 10, 3, 2, 11, 11, 11, 2, 1, 10, 3, 2, 11, 11, 11]
def tg2 : List Int32 := [11, 1, 9, 3, 11, 5, 11, 7, 11, 1, 9, 3, 11, 5, 11, 7, 11, 1, 9, 3, 11, 5, 11, 7, 11, 1, 9, 3, 11, 5, 11, 7, 11, 1, 9, 3, 11, 8, 10, 11, 2, 1, 9, 3, 11, 8, 10, 6, 11, 1, 9, 3, 11, 5, 11, 7, 11, 1, 9, 3, 11, 5, 11, 7]
def T_G0 (j : Nat) : Int32 := tg0.getD j 0
def T_G2 (j : Nat) : Int32 := tg2.getD j 0
/-- a static table of ints: where it lies and what it holds -/
def en_T (C n : String) (T : Nat → Int32) (N z0 : Nat) (U : State) : Prop := ∃ t0 : Nat, va_Z C n "[I" (.ref t0) (fun q => z0 ≤ q) U U.heap ∧ va_T .int t0 N (fun j => .int (T j)) (fun q => z0 ≤ q) U U.heap
/-- WHAT EVERY CONTRACT CARRIES: the words that aren't good, tables, texts, what a throw wants -/
def EN (z0 : Nat) (U : State) : Prop := z0 ≤ U.heap.size ∧ (∀ w ∈ enW, va_Nw w U) ∧ (∀ q ∈ enNc, va_Nc q.1 q.2 U) ∧ (∀ q ∈ enR, ∃ a : Nat, vk_R q.1 q.2.1 q.2.2 a U) ∧ en_T "SixtyFive" "MODES_OF_G0" T_G0 64 z0 U ∧ en_T "SixtyFive" "MODES_OF_G2" T_G2 64 z0 U ∧ vx_Zq Bundle.tN "UNASSIGNED_STACK" Bundle.steD (fun q => z0 ≤ q) U U.heap ∧ vx_Zq Bundle.tN "SUPPRESSED_SENTINEL" Bundle.listD (fun q => z0 ≤ q) U U.heap
theorem en_T.go {C n : String} {T : Nat → Int32} {N z0 : Nat} {s U : State} (h : en_T C n T N z0 s) (hal : s.vm.Alike U.vm) (hk : ∀ a : Nat, a < s.heap.size → ¬ z0 ≤ a → U.heap[a]? = s.heap[a]?) : en_T C n T N z0 U := by
  obtain ⟨t0, h1, h2⟩ := h
  exact ⟨t0, va_Z.moved hal (h1.kept hk), va_T.moved hal (h2.kept hk)⟩
theorem EN.go {z0 : Nat} {s U : State} (h : EN z0 s) (hW : s.WarmedH U.vm) (hz : s.heap.size ≤ U.heap.size) (hk : ∀ a : Nat, a < s.heap.size → ¬ z0 ≤ a → U.heap[a]? = s.heap[a]?) : EN z0 U := by
  obtain ⟨h0, h1, h2, h3, h4, h5, h6, h7⟩ := h
  refine ⟨Nat.le_trans h0 hz, fun w hw => enOK_warm (enW_ok w hw) hW (h1 w hw), fun q hq => va_Nc.moved hW.alike (h2 q hq), fun q hq => ?_, h4.go hW.alike hk, h5.go hW.alike hk, vx_Zq.moved hW.alike (h6.kept hk), vx_Zq.moved hW.alike (h7.kept hk)⟩
  obtain ⟨a, ha⟩ := h3 q hq
  exact ⟨a, vk_R.warm hW ha⟩
theorem EN.call {z0 : Nat} {s U : State} {A : Nat → Prop} {H : Heap} {locs : List Loc} (h : EN z0 s) (hS : va_S A s.heap H locs) (hA0 : ∀ q, A q → z0 ≤ q) (hU : U.heap = H) (hW : s.WarmedH U.vm) : EN z0 U :=
  h.go hW (by rw [hU]; exact hS.1) (fun a ha hn => by rw [hU]; exact hS.2.1 a ha (fun z => hn (hA0 a z)))
/-- a world at a state -/
abbrev atW (D : va_G) (cl : List vw_C) (A : Nat → Prop) (ws : va_W) (tys : List (ClassId × FieldType)) (t : State) : Prop := va_P D cl ws t.heap ∧ va_K D cl tys t ∧ va_D A ws
/-- a contract's start -/
abbrev PcX (D : va_G) (cl : List vw_C) (z0 : Nat) (ws : va_W) (tys : List (ClassId × FieldType)) (sz : Nat) (av : List Value) : Array Value → State → Prop := va_Pc av (fun U => U.heap.size = sz ∧ va_P D cl ws U.heap ∧ va_K D cl tys U ∧ va_D (fun q => z0 ≤ q) ws ∧ EN z0 U)
section
variable {D : va_G} {cl : List vw_C} {z0 sz : Nat} {ws : va_W} {tys : List (ClassId × FieldType)} {av As : List Value} {A : Nat → Prop} {s : State} {H : Heap} {locs : List Loc}
theorem pcx_blind : FrameBlind (PcX D cl z0 ws tys sz av) := fun a U g mk q => by
  obtain ⟨q0, q1, qP, qK, qD, qE⟩ := q
  exact ⟨q0, q1, qP, va_K.moved (u := U) (U := U.calling g mk a) (Vm.Alike.refl U.vm) qK, qD, qE.go (U := U.calling g mk a) (State.WarmedH.refl U) (Nat.le_refl _) (fun _ _ _ => rfl)⟩
theorem pcx_U (hP : va_P D cl ws H) (hK : va_K D cl tys s) (hD : va_D A ws) (hA0 : ∀ q, A q → z0 ≤ q) (hE : EN z0 s) (hS : va_S A s.heap H locs) : ∀ U : State, U.heap = H → s.WarmedH U.vm → PcX D cl z0 ws tys H.size As As.toArray U := fun U hU hW =>
  ⟨rfl, by rw [hU], by rw [hU]; exact hP, va_K.moved hW.alike hK, hD.weaken (fun _ _ _ h => hA0 _ h), hE.call hS hA0 hU hW⟩
theorem pcx_S (hP : va_P D cl ws H) (hK : va_K D cl tys s) (hD : va_D A ws) (hA0 : ∀ q, A q → z0 ≤ q) (hE : EN z0 s) (hS : va_S A s.heap H locs) : PreS s H (PcX D cl z0 ws tys H.size As) As := ⟨pcx_blind, pcx_U hP hK hD hA0 hE hS⟩
theorem pcx_V {C : String} {b : Addr} (hr : ∃ cellB : Cell, H[b]? = some cellB ∧ cellB.vm.isStatics = false ∧ s.vm.findClass C = some cellB.cls) (hP : va_P D cl ws H) (hK : va_K D cl tys s) (hD : va_D A ws) (hA0 : ∀ q, A q → z0 ≤ q) (hE : EN z0 s) (hS : va_S A s.heap H locs) : PreV s H C b (PcX D cl z0 ws tys H.size (.ref b :: As)) As := ⟨pcx_blind, hr, pcx_U (As := .ref b :: As) hP hK hD hA0 hE hS⟩
end
/-- THE HEAD OF A METHOD -/
theorem hdX {l : Launch} {y : MethodName} {cc : ByteArray} {maxL : Nat} {ret : Option FieldType} {rm : Room} {D : va_G} {cl : List vw_C} {z0 : Nat} {ws : va_W} {tys : List (ClassId × FieldType)} {sz : Nat} {av : List Value} {Qc : (Nat → Prop) → Array Value → State → Outcome → State → Prop} {mc ms : Nat} {C : String}
    (hy : plainName y.cls = true) (hC : y.cls = C)
    (body : ∀ (p : Program) (e : Env) (s : State) (m : MethodId) (below : List Frame) (meth : Method) (c : Code) (A : Nat → Prop) (H : Heap), p.tables.exec = Jvm.exec → c.code = cc → meth.sig.returnType = ret → meth.locks = false → c.maxLocals = maxL → s.vm.findClass C = some m.cls → meth.name = y.name → (∀ w ∈ BIG, w.before av.toArray s = true) → va_P D cl ws H → va_K D cl tys s → va_D A ws → (∀ q : Nat, s.heap.size ≤ q → A q) → (∀ q, A q → z0 ≤ q) → EN z0 s → va_S A s.heap H [] →
      W p l e (headSpec (Cond.code y cc maxL ret :: BIG) rm).room s m av.toArray below meth c H [] 0 0 (MQ below (Qc A) av.toArray s mc ms A) (entryFrame m av.toArray maxL)) :
    Met l y (Cond.code y cc maxL ret :: BIG) rm (PcX D cl z0 ws tys sz av) (Qc (va_A ws sz)) mc ms (va_A ws sz) := by
  refine Met.ofW (cc := cc) (maxL := maxL) (ret := ret) hy rfl ?_
  intro p e s m args below meth c s₁ B hml hv
  obtain ⟨rfl, hsz, hP, hK, hD0, hE⟩ := hv
  have hts := atoms_spec (ws := Cond.code y cc maxL ret :: BIG) B.pre
  subst hsz
  refine body p e s m below meth c (va_A ws s.heap.size) s.heap B.exec B.bytes B.returns B.notSynchronized hml (hC ▸ findClass_of_methodNamed B.named) (name_of_methodNamed B.named B.method).1 (fun w h => hts w (List.mem_cons_of_mem _ h)) hP hK hD0.self (fun q h => Or.inr h) ?_ hE va_S.rf
  intro q hq
  rcases hq with ⟨k, e', hk⟩ | h
  · exact hD0.2 k _ hk
  · exact Nat.le_trans hE.1 h
/-- .. of one that may throw -/
theorem hdXx {l : Launch} {y : MethodName} {cc : ByteArray} {maxL : Nat} {ret : Option FieldType} {rm : Room} {D : va_G} {cl : List vw_C} {z0 : Nat} {ws : va_W} {tys : List (ClassId × FieldType)} {sz : Nat} {av : List Value} {Qc : (Nat → Prop) → Array Value → State → Outcome → State → Prop} {XC : (Nat → Prop) → String → State → State → Prop} {mc ms : Nat} {C : String}
    (hy : plainName y.cls = true) (hC : y.cls = C)
    (body : ∀ (p : Program) (e : Env) (s : State) (m : MethodId) (below : List Frame) (meth : Method) (c : Code) (A : Nat → Prop) (H : Heap), p.tables.exec = Jvm.exec → c.code = cc → meth.sig.returnType = ret → meth.locks = false → (∀ x ∈ c.exceptionTable.toList, False) → c.maxLocals = maxL → s.vm.findClass C = some m.cls → meth.name = y.name → (∀ w ∈ BIG, w.before av.toArray s = true) → va_P D cl ws H → va_K D cl tys s → va_D A ws → (∀ q : Nat, s.heap.size ≤ q → A q) → (∀ q, A q → z0 ≤ q) → EN z0 s → va_S A s.heap H [] →
      W p l e (headSpec (Cond.code y cc maxL ret :: BIG) rm).room s m av.toArray below meth c H [] 0 0 (vx_MQ below (Qc A) (XC A) av.toArray s mc ms A) (entryFrame m av.toArray maxL)) :
    vx_Met l y (Cond.code y cc maxL ret :: BIG) rm (PcX D cl z0 ws tys sz av) (Qc (va_A ws sz)) (XC (va_A ws sz)) mc ms (va_A ws sz) := by
  refine vx_ofW (cc := cc) (maxL := maxL) (ret := ret) hy rfl ?_
  intro p e s m args below meth c s₁ B hml hEx hv
  obtain ⟨rfl, hsz, hP, hK, hD0, hE⟩ := hv
  have hts := atoms_spec (ws := Cond.code y cc maxL ret :: BIG) B.pre
  subst hsz
  refine body p e s m below meth c (va_A ws s.heap.size) s.heap B.exec B.bytes B.returns B.notSynchronized hEx hml (hC ▸ findClass_of_methodNamed B.named) (name_of_methodNamed B.named B.method).1 (fun w h => hts w (List.mem_cons_of_mem _ h)) hP hK hD0.self (fun q h => Or.inr h) ?_ hE va_S.rf
  intro q hq
  rcases hq with ⟨k, e', hk⟩ | h
  · exact hD0.2 k _ hk
  · exact Nat.le_trans hE.1 h
/-- what has been thrown lies beside the world -/
theorem thr_at {D : va_G} {cl : List vw_C} {ws : va_W} {tys : List (ClassId × FieldType)} {A : Nat → Prop} {s t : State} {H : Heap} {locs : List Loc} (hP : va_P D cl ws H) (hK : va_K D cl tys s) (hD : va_D A ws) (hS : va_S A s.heap H locs) (ha : s.vm.Alike t.vm) (h1 : H.size ≤ t.heap.size) (h2 : ∀ q : Nat, q < H.size → t.heap[q]? = H[q]?) : atW D cl A ws tys t ∧ va_F A s t :=
  ⟨⟨hP.kept (fun k q hk => h2 q.1 (hP k q hk).lt), va_K.moved ha hK, hD⟩, Nat.le_trans hS.1 h1, fun q hq hn => (h2 q (Nat.lt_of_lt_of_le hq hS.1)).trans (hS.2.1 q hq hn)⟩
def exN : Nat → String
  | 1 => "java/lang/IllegalArgumentException"
  | 2 => "java/lang/IllegalStateException"
  | 3 => "java/lang/UnsupportedOperationException"
  | 4 => "java/lang/IndexOutOfBoundsException"
  | _ => "java/util/NoSuchElementException"
theorem nar01 {x : Int32} (h : x = 0 ∨ x = 1) : narrow .boolean (.int x) = .int x := by rcases h with rfl | rfl <;> rfl
theorem fit01 {x : Int32} (h : x = 0 ∨ x = 1) : fits .boolean (.int x) = true := by rcases h with rfl | rfl <;> rfl
theorem in_and1023 (x : Int32) : vp_in (x &&& 1023) 1024 := pk_andIn x (m := 1023) 10 (by decide) (by decide)
theorem vp_in_mono {x : Int32} {a b : Nat} (h : vp_in x a) (hab : a ≤ b) : vp_in x b := fun q => h (q.imp id (fun z => Nat.le_trans hab z))
theorem in_and255 (x : Int32) : vp_in (x &&& 255) 1024 := vp_in_mono (pk_andIn x (m := 255) 8 (by decide) (by decide)) (by decide)
/-- bytes, the sector's number, the memory -/
def isB (x : Int32) : Prop := ∃ n : Nat, n < 256 ∧ x = nI n
def sn_ok (k : Nat → Int32) : Prop := ∃ j : Nat, j < 8 ∧ k 1 = nI j
def mem_ok (k M : Nat → Int32) : Prop := (∀ j, j < 1024 → isB (M j)) ∧ isB (k 0)
theorem in_lt {x : Int32} {n : Nat} (h : vp_in x n) : x.toNatClampNeg < n := Nat.not_le.mp fun q => h (Or.inr q)
theorem sn_lt {k : Nat → Int32} {v : Int32} (h0 : ¬ v < 0) (h : ¬ (8 : Int32) ≤ v) : sn_ok (upd k 1 v) := by
  obtain ⟨j, hj, e⟩ := nI_of h0
  refine ⟨j, ?_, e⟩
  rcases Nat.lt_or_ge j 8 with q | q
  · exact q
  · exact absurd (by rw [e]; exact nI_le q hj) h
theorem sn_sp0 {k : Nat → Int32} (h : sn_ok k) : ¬ (k 1 * (32 : Int32)) < 0 := by
  obtain ⟨j, hj, e⟩ := h
  rw [e, show (32 : Int32) = nI 32 from rfl, pk_mul]
  exact nI_pos (by omega)
theorem sn_sp1 {k : Nat → Int32} (h : sn_ok k) : (k 1 * (32 : Int32)).toNatClampNeg + (32 : Int32).toNatClampNeg ≤ 256 := by
  obtain ⟨j, hj, e⟩ := h
  rw [e, show (32 : Int32) = nI 32 from rfl, pk_mul, nI_clamp (by omega), nI_clamp (by decide)]
  omega
theorem code_place {p1 : Int32} (h : isB p1) : vp_in (p1 / (32 : Int32) * (8 : Int32) + (p1 / (4 : Int32) - p1 / (4 : Int32) / (8 : Int32) * (8 : Int32))) 64 := by
  obtain ⟨n, hn, e⟩ := h
  rw [e, show (32 : Int32) = nI 32 from rfl, show (8 : Int32) = nI 8 from rfl, show (4 : Int32) = nI 4 from rfl, pk_div (by omega) (by decide) (by decide), pk_div (by omega) (by decide) (by decide), pk_mul, pk_rem (by omega) (by decide) (by decide), nI_add]
  exact vp_in_nI (by omega) (by decide)
