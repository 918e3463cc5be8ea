/-! THE CLAIM OUT OF ONE WALK OF THE LAW'S BODY. Your part is whole_start (and what it stands on); all else here is the same for every law, but numbers. -/
def R_law : String := "AdapterBenchLaw"
def lw_P (b : Addr) (xs : List Int32) (args : Array Value) (s : State) : Prop := args = #[.ref b] ∧ s.IntsAt b xs ∧ xs.length ≤ 3072 ∧ (Jvm.Cond.and given_1 narrow_1).before args s = true
def lw_Q (_ : Array Value) (s : State) (o : Outcome) (t : State) : Prop := o = .returned (some (.int 1)) ∧ Framed s o t [] 600000 7302249
def lw_Z (below : List Frame) (a : Array Value) (s : State) : State → Prop := fun t => ∃ o, t.status = .running ∧ Ended t below o ∧ lw_Q a s o t
/-- the law's own end, with 1 on the stack, nothing written that was there before, its room as the claim has it -/
theorem lw_ret {p : Program} {l : Launch} {e : Env} {s : State} {m : MethodId} {below : List Frame} {meth : Method} {c : Code} {b : Nat} (hx : p.tables.exec = Jvm.exec) (hb : c.code = code) (hr : meth.sig.returnType = ret) (hlocks : meth.locks = false) {pc : Nat} {H : Heap} {ls : Array Slot} (hdg : decode code pc = .ok (.ireturn, 1)) : W p l e room_1 s m #[Value.ref b] below meth c H [] 600000 7302249 (lw_Z below #[Value.ref b] s) (F0 m pc ls [.int 1]) := by
  intro T hT X
  obtain ⟨fs, hret, hrun, hended, hW, hframe⟩ := X.leave (v := some (.int 1)) (hlocks := hlocks) (fun h => by rw [hr] at h; cases h)
  have hmeth' : T.vm.method? m = some meth := X.method'
  refine ⟨T.setFrames fs, ?_, .returned (some (.int 1)), hrun, hended, rfl, ⟨_, rfl⟩, hW, hframe⟩
  jvm_step X.here [X.here.top, hx, hb, hdg, hmeth', hr, ret, narrow_b1]
  (try refine ⟨rfl, ?_⟩); (try refine ⟨rfl, ?_⟩)
  first | (intro acts; rw [hret _ acts rfl rfl rfl]) | rw [hret _ _ rfl rfl rfl]
  exact Steps.refl _
/-- what holds at the law's entry: the machine, the code, the tables' words (any of lw_tbl by 'hts w (by decide +kernel)'), the script of L ints xs at the cell b, what the Statement gives of the start (any of its parts by flat_of_before) -/
def lw_At (p : Program) (s : State) (m : MethodId) (meth : Method) (c : Code) (b L : Nat) (xs : Nat → Int32) : Prop :=
  p.tables.exec = Jvm.exec ∧ c.code = code ∧ meth.sig.returnType = ret ∧ c.maxLocals = 4 ∧ s.vm.findClass R_law = some m.cls ∧ (∀ w ∈ lw_tbl, w.before #[Value.ref b] s = true) ∧ va_X b L xs s s.heap ∧ b < s.heap.size ∧ meth.locks = false ∧ (Jvm.Cond.and given_1 narrow_1).before #[Value.ref b] s = true
theorem ko_X5 : Cond.arrayOver (.object RX5) ∈ lw_tbl := by decide +kernel
theorem ko_X7 : Cond.arrayOver (.object RX7) ∈ lw_tbl := by decide +kernel
set_option maxHeartbeats 4000000 in
set_option maxRecDepth 100000 in
theorem za_of {b : Nat} {s : State} (hts0 : ∀ w ∈ lw_tbl, w.before #[Value.ref b] s = true) (hgv : (Jvm.Cond.and given_1 narrow_1).before #[Value.ref b] s = true) : ZA s.heap.size s s.heap := by
  have fl := flat_of_before _ hgv
  obtain ⟨tFROM, hFROM, TFROM⟩ := va_Tof (args := #[Value.ref b]) (s := s) (tm := .static RX6 "FROM" "[I") (ty := .int) (N := 12) (f := fun j => .int (([0, 1, 2, 3, 2, 1, 4, 2, 3, 5, 6, 1] : List Int32).getD j 0)) (A := fun q => s.heap.size ≤ q) (by decide) (fl (.arrayOf (.static RX6 "FROM" "[I") .int) (by decide +kernel)) (va_eqt (fl (.eq (.length (.static RX6 "FROM" "[I")) (.int 12)) (by decide +kernel))) (fun j hj => by
    rcases (show j = 0 ∨ j = 1 ∨ j = 2 ∨ j = 3 ∨ j = 4 ∨ j = 5 ∨ j = 6 ∨ j = 7 ∨ j = 8 ∨ j = 9 ∨ j = 10 ∨ j = 11 by omega) with rfl | rfl | rfl | rfl | rfl | rfl | rfl | rfl | rfl | rfl | rfl | rfl
    · exact va_eqt (fl (.eq (.elem (.static RX6 "FROM" "[I") (.int 0)) (.int 0)) (by decide +kernel))
    · exact va_eqt (fl (.eq (.elem (.static RX6 "FROM" "[I") (.int 1)) (.int 1)) (by decide +kernel))
    · exact va_eqt (fl (.eq (.elem (.static RX6 "FROM" "[I") (.int 2)) (.int 2)) (by decide +kernel))
    · exact va_eqt (fl (.eq (.elem (.static RX6 "FROM" "[I") (.int 3)) (.int 3)) (by decide +kernel))
    · exact va_eqt (fl (.eq (.elem (.static RX6 "FROM" "[I") (.int 4)) (.int 2)) (by decide +kernel))
    · exact va_eqt (fl (.eq (.elem (.static RX6 "FROM" "[I") (.int 5)) (.int 1)) (by decide +kernel))
    · exact va_eqt (fl (.eq (.elem (.static RX6 "FROM" "[I") (.int 6)) (.int 4)) (by decide +kernel))
    · exact va_eqt (fl (.eq (.elem (.static RX6 "FROM" "[I") (.int 7)) (.int 2)) (by decide +kernel))
    · exact va_eqt (fl (.eq (.elem (.static RX6 "FROM" "[I") (.int 8)) (.int 3)) (by decide +kernel))
    · exact va_eqt (fl (.eq (.elem (.static RX6 "FROM" "[I") (.int 9)) (.int 5)) (by decide +kernel))
    · exact va_eqt (fl (.eq (.elem (.static RX6 "FROM" "[I") (.int 10)) (.int 6)) (by decide +kernel))
    · exact va_eqt (fl (.eq (.elem (.static RX6 "FROM" "[I") (.int 11)) (.int 1)) (by decide +kernel))
    ) (fun a h => Nat.not_le.mpr h)
  obtain ⟨tTO, hTO, TTO⟩ := va_Tof (args := #[Value.ref b]) (s := s) (tm := .static RX6 "TO" "[I") (ty := .int) (N := 12) (f := fun j => .int (([1, 2, 3, 2, 1, 0, 0, 4, 5, 3, 1, 6] : List Int32).getD j 0)) (A := fun q => s.heap.size ≤ q) (by decide) (fl (.arrayOf (.static RX6 "TO" "[I") .int) (by decide +kernel)) (va_eqt (fl (.eq (.length (.static RX6 "TO" "[I")) (.int 12)) (by decide +kernel))) (fun j hj => by
    rcases (show j = 0 ∨ j = 1 ∨ j = 2 ∨ j = 3 ∨ j = 4 ∨ j = 5 ∨ j = 6 ∨ j = 7 ∨ j = 8 ∨ j = 9 ∨ j = 10 ∨ j = 11 by omega) with rfl | rfl | rfl | rfl | rfl | rfl | rfl | rfl | rfl | rfl | rfl | rfl
    · exact va_eqt (fl (.eq (.elem (.static RX6 "TO" "[I") (.int 0)) (.int 1)) (by decide +kernel))
    · exact va_eqt (fl (.eq (.elem (.static RX6 "TO" "[I") (.int 1)) (.int 2)) (by decide +kernel))
    · exact va_eqt (fl (.eq (.elem (.static RX6 "TO" "[I") (.int 2)) (.int 3)) (by decide +kernel))
    · exact va_eqt (fl (.eq (.elem (.static RX6 "TO" "[I") (.int 3)) (.int 2)) (by decide +kernel))
    · exact va_eqt (fl (.eq (.elem (.static RX6 "TO" "[I") (.int 4)) (.int 1)) (by decide +kernel))
    · exact va_eqt (fl (.eq (.elem (.static RX6 "TO" "[I") (.int 5)) (.int 0)) (by decide +kernel))
    · exact va_eqt (fl (.eq (.elem (.static RX6 "TO" "[I") (.int 6)) (.int 0)) (by decide +kernel))
    · exact va_eqt (fl (.eq (.elem (.static RX6 "TO" "[I") (.int 7)) (.int 4)) (by decide +kernel))
    · exact va_eqt (fl (.eq (.elem (.static RX6 "TO" "[I") (.int 8)) (.int 5)) (by decide +kernel))
    · exact va_eqt (fl (.eq (.elem (.static RX6 "TO" "[I") (.int 9)) (.int 3)) (by decide +kernel))
    · exact va_eqt (fl (.eq (.elem (.static RX6 "TO" "[I") (.int 10)) (.int 1)) (by decide +kernel))
    · exact va_eqt (fl (.eq (.elem (.static RX6 "TO" "[I") (.int 11)) (.int 6)) (by decide +kernel))
    ) (fun a h => Nat.not_le.mpr h)
  obtain ⟨tCOST, hCOST, TCOST⟩ := va_Tof (args := #[Value.ref b]) (s := s) (tm := .static RX6 "COST" "[I") (ty := .int) (N := 12) (f := fun j => .int (([1, 1, 1, 5, 5, 5, 2, 6, 3, 6, 2, 5] : List Int32).getD j 0)) (A := fun q => s.heap.size ≤ q) (by decide) (fl (.arrayOf (.static RX6 "COST" "[I") .int) (by decide +kernel)) (va_eqt (fl (.eq (.length (.static RX6 "COST" "[I")) (.int 12)) (by decide +kernel))) (fun j hj => by
    rcases (show j = 0 ∨ j = 1 ∨ j = 2 ∨ j = 3 ∨ j = 4 ∨ j = 5 ∨ j = 6 ∨ j = 7 ∨ j = 8 ∨ j = 9 ∨ j = 10 ∨ j = 11 by omega) with rfl | rfl | rfl | rfl | rfl | rfl | rfl | rfl | rfl | rfl | rfl | rfl
    · exact va_eqt (fl (.eq (.elem (.static RX6 "COST" "[I") (.int 0)) (.int 1)) (by decide +kernel))
    · exact va_eqt (fl (.eq (.elem (.static RX6 "COST" "[I") (.int 1)) (.int 1)) (by decide +kernel))
    · exact va_eqt (fl (.eq (.elem (.static RX6 "COST" "[I") (.int 2)) (.int 1)) (by decide +kernel))
    · exact va_eqt (fl (.eq (.elem (.static RX6 "COST" "[I") (.int 3)) (.int 5)) (by decide +kernel))
    · exact va_eqt (fl (.eq (.elem (.static RX6 "COST" "[I") (.int 4)) (.int 5)) (by decide +kernel))
    · exact va_eqt (fl (.eq (.elem (.static RX6 "COST" "[I") (.int 5)) (.int 5)) (by decide +kernel))
    · exact va_eqt (fl (.eq (.elem (.static RX6 "COST" "[I") (.int 6)) (.int 2)) (by decide +kernel))
    · exact va_eqt (fl (.eq (.elem (.static RX6 "COST" "[I") (.int 7)) (.int 6)) (by decide +kernel))
    · exact va_eqt (fl (.eq (.elem (.static RX6 "COST" "[I") (.int 8)) (.int 3)) (by decide +kernel))
    · exact va_eqt (fl (.eq (.elem (.static RX6 "COST" "[I") (.int 9)) (.int 6)) (by decide +kernel))
    · exact va_eqt (fl (.eq (.elem (.static RX6 "COST" "[I") (.int 10)) (.int 2)) (by decide +kernel))
    · exact va_eqt (fl (.eq (.elem (.static RX6 "COST" "[I") (.int 11)) (.int 5)) (by decide +kernel))
    ) (fun a h => Nat.not_le.mpr h)
  obtain ⟨tBY, hBY, TBY⟩ := va_Tof (args := #[Value.ref b]) (s := s) (tm := .static RX6 "BY" "[I") (ty := .int) (N := 12) (f := fun j => .int (([1, 1, 1, 1, 1, 1, 1, 1, 10, 1, 1, 1] : List Int32).getD j 0)) (A := fun q => s.heap.size ≤ q) (by decide) (fl (.arrayOf (.static RX6 "BY" "[I") .int) (by decide +kernel)) (va_eqt (fl (.eq (.length (.static RX6 "BY" "[I")) (.int 12)) (by decide +kernel))) (fun j hj => by
    rcases (show j = 0 ∨ j = 1 ∨ j = 2 ∨ j = 3 ∨ j = 4 ∨ j = 5 ∨ j = 6 ∨ j = 7 ∨ j = 8 ∨ j = 9 ∨ j = 10 ∨ j = 11 by omega) with rfl | rfl | rfl | rfl | rfl | rfl | rfl | rfl | rfl | rfl | rfl | rfl
    · exact va_eqt (fl (.eq (.elem (.static RX6 "BY" "[I") (.int 0)) (.int 1)) (by decide +kernel))
    · exact va_eqt (fl (.eq (.elem (.static RX6 "BY" "[I") (.int 1)) (.int 1)) (by decide +kernel))
    · exact va_eqt (fl (.eq (.elem (.static RX6 "BY" "[I") (.int 2)) (.int 1)) (by decide +kernel))
    · exact va_eqt (fl (.eq (.elem (.static RX6 "BY" "[I") (.int 3)) (.int 1)) (by decide +kernel))
    · exact va_eqt (fl (.eq (.elem (.static RX6 "BY" "[I") (.int 4)) (.int 1)) (by decide +kernel))
    · exact va_eqt (fl (.eq (.elem (.static RX6 "BY" "[I") (.int 5)) (.int 1)) (by decide +kernel))
    · exact va_eqt (fl (.eq (.elem (.static RX6 "BY" "[I") (.int 6)) (.int 1)) (by decide +kernel))
    · exact va_eqt (fl (.eq (.elem (.static RX6 "BY" "[I") (.int 7)) (.int 1)) (by decide +kernel))
    · exact va_eqt (fl (.eq (.elem (.static RX6 "BY" "[I") (.int 8)) (.int 10)) (by decide +kernel))
    · exact va_eqt (fl (.eq (.elem (.static RX6 "BY" "[I") (.int 9)) (.int 1)) (by decide +kernel))
    · exact va_eqt (fl (.eq (.elem (.static RX6 "BY" "[I") (.int 10)) (.int 1)) (by decide +kernel))
    · exact va_eqt (fl (.eq (.elem (.static RX6 "BY" "[I") (.int 11)) (.int 1)) (by decide +kernel))
    ) (fun a h => Nat.not_le.mpr h)
  intro q hq
  simp only [ZA4, List.mem_cons, List.not_mem_nil, or_false] at hq
  rcases hq with rfl | rfl | rfl | rfl
  · exact ⟨tFROM, va_Zof (hts0 (.laysStatic RX6 "FROM" "[I") (by decide +kernel)) (hts0 (.initialized RX6) (by decide +kernel)) hFROM (fun a h => Nat.not_le.mpr h), TFROM⟩
  · exact ⟨tTO, va_Zof (hts0 (.laysStatic RX6 "TO" "[I") (by decide +kernel)) (hts0 (.initialized RX6) (by decide +kernel)) hTO (fun a h => Nat.not_le.mpr h), TTO⟩
  · exact ⟨tCOST, va_Zof (hts0 (.laysStatic RX6 "COST" "[I") (by decide +kernel)) (hts0 (.initialized RX6) (by decide +kernel)) hCOST (fun a h => Nat.not_le.mpr h), TCOST⟩
  · exact ⟨tBY, va_Zof (hts0 (.laysStatic RX6 "BY" "[I") (by decide +kernel)) (hts0 (.initialized RX6) (by decide +kernel)) hBY (fun a h => Nat.not_le.mpr h), TBY⟩
theorem sc_in {y i : Int32} {k : Int} {iN n0 : Nat} (t : y.toInt = i.toInt + k) (hi : i.toInt = iN) (h6 : iN + 6 ≤ n0) (hk : 0 ≤ k ∧ k < 6) : vp_in y n0 := vp_in_iff.mpr (by rw [t]; omega)
theorem sc_in0 {i : Int32} {iN n0 : Nat} (hi : i.toInt = iN) (h6 : iN + 6 ≤ n0) : vp_in i n0 := vp_in_iff.mpr (by omega)
theorem sc_lenI {n0 : Nat} (h : n0 ≤ 3072) : (Int32.ofNat n0).toInt = n0 := nI_toInt (n := n0) (by omega)
theorem sc_len {n0 : Nat} (h : n0 ≤ 3072) : Rg (Int32.ofNat n0) (0) (3072) := by unfold Rg; rw [sc_lenI h]; omega
