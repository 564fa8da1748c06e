/-! THE CLAIM OUT OF ONE WALK OF THE LAW'S BODY. Your part is whole_start (and what it stands on); all else here is the same for every law, but numbers. -/
def R_law : String := "RodYardLaw"
def lw_P (b : Addr) (xs : List Int32) (args : Array Value) (s : State) : Prop := args = #[.ref b] ∧ s.IntsAt b xs ∧ xs.length ≤ 3072 ∧ (Jvm.Cond.and given_1 narrow_1).before args s = true
/-- what a walk over the start with the record d0 says of its end, said of the start itself -/
theorem lw_closed {s t : State} {o : Outcome} {d0 : Drawn} {L : List Loc} {k n : Nat} (hd0 : s.drawn.sameBut d0 lw_cs) (hv : ∃ v, o = .returned v) (hW : (s.setDrawn d0).WarmedH t.vm) (hs : (s.setDrawn d0).sameButNew ({ t with vm := s.vm } : State) L k n) : State.butDraws s t lw_cs (fun t1 => Framed s o t1 L k n) := by
  have h2 : t.drawn = d0 := congrArg State.drawn hs.1
  refine ⟨⟨hv, hW, State.sameButNew.setDrawn hs s.drawn⟩, ?_, by decide⟩
  rw [h2]
  exact hd0
def lw_Q (_ : Array Value) (s : State) (o : Outcome) (t : State) : Prop := o = .returned (some (.int 1)) ∧ State.butDraws s t lw_cs (fun t1 => Framed s o t1 [] 601024 7293034)
def lw_Z (below : List Frame) (a : Array Value) (s : State) : State → Prop := fun t => ∃ o, t.status = .running ∧ Ended t below o ∧ lw_Q a s o t
/-- what holds at the law's entry: the machine, the code, the tables' words (any of lw_tbl by 'hts w (by decide +kernel)'), the script of L ints xs at the cell b, what the Statement gives of the start (any of its parts by flat_of_before) -/
def lw_At (p : Program) (s : State) (m : MethodId) (meth : Method) (c : Code) (b L : Nat) (xs : Nat → Int32) : Prop :=
  p.tables.exec = Jvm.exec ∧ c.code = code ∧ meth.sig.returnType = ret ∧ c.maxLocals = 9 ∧ s.vm.findClass R_law = some m.cls ∧ (∀ w ∈ lw_tbl, w.before #[Value.ref b] s = true) ∧ va_X b L xs s s.heap ∧ b < s.heap.size ∧ meth.locks = false ∧ (Jvm.Cond.and given_1 narrow_1).before #[Value.ref b] s = true ∧ c.exceptionTable.toList = [] ∧ meth.name = x.name
def am_nar : List Jvm.Cond := flatC (Jvm.Cond.and given_1 narrow_1)
def am_np : List Nat := [81, 89, 97, 105, 113, 121, 130, 353, 643, 652, 661, 670, 679, 688, 698]
def am_tmS (j : Nat) : Term := .string (am_strs.getD j ("", 0, "")).1 (am_strs.getD j ("", 0, "")).2.1
def am_tmV (j : Nat) : Term := .field (am_tmS j) "java/lang/String" "value" "[B"
def am_nw (j : Nat) : List Jvm.Cond := .exactly (am_tmS j) "java/lang/String" :: .eq (.field (am_tmS j) "java/lang/String" "coder" "B") (.int 0) :: .arrayOf (am_tmV j) .byte :: .eq (.length (am_tmV j)) (.int (Int32.ofNat (am_txt.getD j []).length)) :: (List.range (am_txt.getD j []).length).map (fun i => .eq (.elem (am_tmV j) (.int (Int32.ofNat i))) (.int (Int32.ofInt ((am_txt.getD j []).getD i 0))))
theorem am_nchk : (List.range 15).all (fun j => decide ((am_nar.drop (am_np.getD j 0)).take (am_nw j).length = am_nw j)) = true := by decide +kernel
theorem am_nin {j : Nat} (hj : j < 15) : ∀ w ∈ am_nw j, w ∈ am_nar := by
  intro w hw
  have h := of_decide_eq_true (am_all am_nchk hj)
  rw [← h] at hw
  exact List.mem_of_mem_drop (List.mem_of_mem_take hw)
theorem am_srchk : (List.range 15).all (fun j => decide (Cond.stringRef (am_strs.getD j ("", 0, "")).1 (am_strs.getD j ("", 0, "")).2.1 (am_strs.getD j ("", 0, "")).2.2 ∈ lw_tbl)) = true := by decide +kernel
theorem am_ncchk : [(10, 11), (10, 12), (11, 10), (11, 12), (12, 10), (12, 11)].all (fun q => decide (Cond.not (.castable (am_cn q.1) (am_cn q.2)) ∈ am_nar)) = true := by decide +kernel
theorem am_ls1 : Cond.laysStatic Bundle.tN "UNASSIGNED_STACK" Bundle.steD ∈ lw_tbl := by decide +kernel
theorem am_ls2 : Cond.laysStatic Bundle.tN "SUPPRESSED_SENTINEL" Bundle.listD ∈ lw_tbl := by decide +kernel
theorem am_ls3 : Cond.laysStatic "java/lang/String" "COMPACT_STRINGS" "Z" ∈ lw_tbl := by decide +kernel
theorem am_ls4 : Cond.laysStatic "jdk/internal/util/Preconditions" "SIOOBE_FORMATTER" "Ljava/util/function/BiFunction;" ∈ lw_tbl := by decide +kernel
theorem am_li1 : Cond.initialized Bundle.tN ∈ lw_tbl := by decide +kernel
theorem am_li3 : Cond.initialized "java/lang/String" ∈ lw_tbl := by decide +kernel
theorem am_li4 : Cond.initialized "jdk/internal/util/Preconditions" ∈ lw_tbl := by decide +kernel
theorem am_lo1' : Cond.arrayOver (.object "RodYard$State") ∈ lw_tbl := by decide +kernel
theorem am_lo2' : Cond.arrayOver (.array .int) ∈ lw_tbl := by decide +kernel
theorem am_nr1 : Cond.isRef (.static Bundle.tN "UNASSIGNED_STACK" Bundle.steD) ∈ am_nar := by decide +kernel
theorem am_nr2 : Cond.isRef (.static Bundle.tN "SUPPRESSED_SENTINEL" Bundle.listD) ∈ am_nar := by decide +kernel
theorem am_nr3 : Cond.eq (.static "java/lang/String" "COMPACT_STRINGS" "Z") (.int 1) ∈ am_nar := by decide +kernel
theorem am_nr4 : Cond.isRef (.static "jdk/internal/util/Preconditions" "SIOOBE_FORMATTER" "Ljava/util/function/BiFunction;") ∈ am_nar := by decide +kernel
theorem am_sound_t {w : Jvm.Cond} (h : w ∈ am_ws) : w ∈ lw_tbl := (List.mem_filter.mp h).1
