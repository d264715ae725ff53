/-! the law's start (words of the kit's skeleton first) -/
def R_law : String := "HushAtFourLaw"
def lw_P (b : Addr) (xs : List Int32) (args : Array Value) (s : State) : Prop := args = #[.ref b] ∧ s.IntsAt b xs ∧ xs.length ≤ 3072 ∧ (Jvm.Cond.and given_1 narrow_1).before args s = true
def lw_Q (_ : Array Value) (s : State) (o : Outcome) (t : State) : Prop := o = .returned (some (.int 1)) ∧ Framed s o t [] 600000 7302250
def lw_Z (below : List Frame) (a : Array Value) (s : State) : State → Prop := fun t => ∃ o, t.status = .running ∧ Ended t below o ∧ lw_Q a s o t
/-- the law's own end, with 1 on the stack, nothing written that was there before, its room as the claim has it -/
theorem lw_ret {p : Program} {l : Launch} {e : Env} {s : State} {m : MethodId} {below : List Frame} {meth : Method} {c : Code} {b : Nat} (hx : p.tables.exec = Jvm.exec) (hb : c.code = code) (hr : meth.sig.returnType = ret) (hlocks : meth.locks = false) {pc : Nat} {H : Heap} {ls : Array Slot} (hdg : decode code pc = .ok (.ireturn, 1)) : W p l e room_1 s m #[Value.ref b] below meth c H [] 600000 7302250 (lw_Z below #[Value.ref b] s) (F0 m pc ls [.int 1]) := by
  intro T hT X
  obtain ⟨fs, hret, hrun, hended, hW, hframe⟩ := X.leave (v := some (.int 1)) (hlocks := hlocks) (fun h => by rw [hr] at h; cases h)
  have hmeth' : T.vm.method? m = some meth := X.method'
  refine ⟨T.setFrames fs, ?_, .returned (some (.int 1)), hrun, hended, rfl, ⟨_, rfl⟩, hW, hframe⟩
  jvm_step X.here [X.here.top, hx, hb, hdg, hmeth', hr, ret, narrow_b1]
  (try refine ⟨rfl, ?_⟩); (try refine ⟨rfl, ?_⟩)
  first | (intro acts; rw [hret _ acts rfl rfl rfl]) | rw [hret _ _ rfl rfl rfl]
  exact Steps.refl _
/-- what holds at the law's entry: the machine, the code, the tables' words (any of lw_tbl by 'hts w (by decide +kernel)'), the script of L ints xs at the cell b, what the Statement gives of the start (any of its parts by flat_of_before) -/
def lw_At (p : Program) (s : State) (m : MethodId) (meth : Method) (c : Code) (b L : Nat) (xs : Nat → Int32) : Prop :=
  p.tables.exec = Jvm.exec ∧ c.code = code ∧ meth.sig.returnType = ret ∧ c.maxLocals = 4 ∧ s.vm.findClass R_law = some m.cls ∧ (∀ w ∈ lw_tbl, w.before #[Value.ref b] s = true) ∧ va_X b L xs s s.heap ∧ b < s.heap.size ∧ meth.locks = false ∧ (Jvm.Cond.and given_1 narrow_1).before #[Value.ref b] s = true
def tmS (i : Nat) : Term := .string RX1 (sIdx.getD i 0)
def FLC : List Cond := flatC (Jvm.Cond.and given_1 narrow_1)
set_option maxRecDepth 20000 in
theorem fl_ex : ∀ i, i < 11 → Cond.exactly (tmS i) "java/lang/String" ∈ FLC := by decide +kernel
set_option maxRecDepth 20000 in
theorem fl_co : ∀ i, i < 11 → Cond.eq (.field (tmS i) "java/lang/String" "coder" "B") (.int 0) ∈ FLC := by decide +kernel
set_option maxRecDepth 20000 in
theorem fl_ar : ∀ i, i < 11 → Cond.arrayOf (.field (tmS i) "java/lang/String" "value" "[B") .byte ∈ FLC := by decide +kernel
set_option maxRecDepth 20000 in
theorem fl_le : ∀ i, i < 11 → Cond.eq (.length (.field (tmS i) "java/lang/String" "value" "[B")) (.int (Int32.ofNat (sLen.getD i 0))) ∈ FLC := by decide +kernel
set_option maxRecDepth 20000 in
theorem fl_el : ∀ i, i < 11 → ∀ j, j < 7 → j < sLen.getD i 0 → Cond.eq (.elem (.field (tmS i) "java/lang/String" "value" "[B") (.int (Int32.ofNat j))) (.int ((sByt.getD i []).getD j 0)) ∈ FLC := by decide +kernel
set_option maxRecDepth 20000 in
theorem fl_ne : ∀ i, i < 11 → ∀ j, j < 11 → i ≠ j → Cond.not (Cond.eq (tmS i) (tmS j)) ∈ FLC ∨ Cond.not (Cond.eq (tmS j) (tmS i)) ∈ FLC := by decide +kernel
set_option maxRecDepth 20000 in
theorem fl_nm : ∀ j, j < 77 → Cond.eq (.elem (.static RX4 "NAMES" "[I") (.int (Int32.ofNat j))) (.int (nmF j)) ∈ FLC := by decide +kernel
set_option maxRecDepth 20000 in
theorem fl_na : Cond.arrayOf (.static RX4 "NAMES" "[I") .int ∈ FLC := by decide +kernel
set_option maxRecDepth 20000 in
theorem fl_nl : Cond.eq (.length (.static RX4 "NAMES" "[I")) (.int (Int32.ofNat 77)) ∈ FLC := by decide +kernel
set_option maxRecDepth 20000 in
theorem fl_cs : Cond.eq (.static "java/lang/String" "COMPACT_STRINGS" "Z") (.int 1) ∈ FLC := by decide +kernel
set_option maxRecDepth 20000 in
theorem fl_si : Cond.isRef (.static "jdk/internal/util/Preconditions" "SIOOBE_FORMATTER" "Ljava/util/function/BiFunction;") ∈ FLC := by decide +kernel
set_option maxRecDepth 20000 in
theorem tb_n1 : Cond.methodLinkNest RX1 112 yX3_isWithin RX3 ∈ lw_tbl := List.mem_of_getElem? (i := 549) (by decide +kernel)
set_option maxRecDepth 20000 in
theorem tb_n2 : Cond.methodLinkNest RX2 112 yX3_sum RX3 ∈ lw_tbl := List.mem_of_getElem? (i := 415) (by decide +kernel)
set_option maxRecDepth 20000 in
theorem tb_n3 : Cond.methodLinkNest RX2 75 yX3_held RX3 ∈ lw_tbl := List.mem_of_getElem? (i := 295) (by decide +kernel)
set_option maxRecDepth 20000 in
theorem tb_n4 : Cond.methodLinkNest RX2 83 yX3_isWithin RX3 ∈ lw_tbl := List.mem_of_getElem? (i := 294) (by decide +kernel)
set_option maxRecDepth 20000 in
theorem tb_ao : Cond.arrayOver (.object RX0) ∈ lw_tbl := List.mem_of_getElem? (i := 158) (by decide +kernel)
set_option maxRecDepth 20000 in
theorem tb_ai : Cond.arrayClass .int ∈ lw_tbl := List.mem_of_getElem? (i := 125) (by decide +kernel)
set_option maxRecDepth 20000 in
theorem tb_aj : Cond.arrayClass .long ∈ lw_tbl := List.mem_of_getElem? (i := 177) (by decide +kernel)
set_option maxRecDepth 20000 in
theorem tb_lc : Cond.laysStatic "java/lang/String" "COMPACT_STRINGS" "Z" ∈ lw_tbl := List.mem_of_getElem? (i := 501) (by decide +kernel)
set_option maxRecDepth 20000 in
theorem tb_lci : Cond.initialized "java/lang/String" ∈ lw_tbl := List.mem_of_getElem? (i := 57) (by decide +kernel)
set_option maxRecDepth 20000 in
theorem tb_ln : Cond.laysStatic "HushAtFourModel" "NAMES" "[I" ∈ lw_tbl := List.mem_of_getElem? (i := 942) (by decide +kernel)
set_option maxRecDepth 20000 in
theorem tb_lni : Cond.initialized "HushAtFourModel" ∈ lw_tbl := List.mem_of_getElem? (i := 54) (by decide +kernel)
set_option maxRecDepth 20000 in
theorem tb_ls : Cond.laysStatic "jdk/internal/util/Preconditions" "SIOOBE_FORMATTER" "Ljava/util/function/BiFunction;" ∈ lw_tbl := List.mem_of_getElem? (i := 517) (by decide +kernel)
set_option maxRecDepth 20000 in
theorem tb_lsi : Cond.initialized "jdk/internal/util/Preconditions" ∈ lw_tbl := List.mem_of_getElem? (i := 59) (by decide +kernel)
set_option maxRecDepth 20000 in
theorem tb_i0 : Cond.instantiable RX0 3 ∈ lw_tbl := List.mem_of_getElem? (i := 159) (by decide +kernel)
set_option maxRecDepth 20000 in
theorem tb_i1 : Cond.instantiable RX1 7 ∈ lw_tbl := List.mem_of_getElem? (i := 127) (by decide +kernel)
set_option maxRecDepth 20000 in
theorem tb_i2 : Cond.instantiable RX2 11 ∈ lw_tbl := List.mem_of_getElem? (i := 70) (by decide +kernel)
set_option maxRecDepth 20000 in
theorem tb_i3 : Cond.instantiable RX3 7 ∈ lw_tbl := List.mem_of_getElem? (i := 62) (by decide +kernel)
set_option maxRecDepth 20000 in
theorem tb_i4 : Cond.instantiable RX4 15 ∈ lw_tbl := List.mem_of_getElem? (i := 648) (by decide +kernel)
theorem inlX0 : ∀ w ∈ wsX00, w ∈ wsL_law := fun _ h => List.mem_append_left _ (List.mem_append_right _ h)
theorem inlX1 : ∀ w ∈ wsX10, w ∈ wsL_law := fun _ h => List.mem_append_left _ (List.mem_append_left _ (List.mem_append_right _ h))
theorem inlX2 : ∀ w ∈ wsX20, w ∈ wsL_law := fun _ h => List.mem_append_left _ (List.mem_append_left _ (List.mem_append_left _ (List.mem_append_right _ h)))
theorem inlX3 : ∀ w ∈ wsX30, w ∈ wsL_law := fun _ h => List.mem_append_left _ (List.mem_append_left _ (List.mem_append_left _ (List.mem_append_left _ (List.mem_append_left _ (List.mem_append_right _ h)))))
theorem inlX4 : ∀ w ∈ wsX40, w ∈ wsL_law := fun _ h => List.mem_append_left _ (List.mem_append_left _ (List.mem_append_left _ (List.mem_append_left _ (List.mem_append_right _ h))))
set_option maxRecDepth 20000 in
theorem tb_sr : ∀ i, i < 11 → Cond.stringRef RX1 (sIdx.getD i 0) (sTx.getD i "") ∈ lw_tbl := by decide +kernel
