/-! THE CLAIM OUT OF ONE WALK OF THE LAW'S BODY. Your part is whole_start (and what it stands on); all else here is the same for every law, but numbers. -/
def R_law : String := "RodYardLaw"
def lw_P (b : Addr) (xs : List Int32) (args : Array Value) (s : State) : Prop := args = #[.ref b] ∧ s.IntsAt b xs ∧ xs.length ≤ 260 ∧ (Jvm.Cond.and given_1 narrow_1).before args s = true
/-- what a walk over the start with the record d0 says of its end, said of the start itself -/
theorem lw_closed {s t : State} {o : Outcome} {d0 : Drawn} {L : List Loc} {k n : Nat} (hd0 : s.drawn.sameBut d0 lw_cs) (hv : ∃ v, o = .returned v) (hW : (s.setDrawn d0).WarmedH t.vm) (hs : (s.setDrawn d0).sameButNew ({ t with vm := s.vm } : State) L k n) : State.butDraws s t lw_cs (fun t1 => Framed s o t1 L k n) := by
  have h2 : t.drawn = d0 := congrArg State.drawn hs.1
  refine ⟨⟨hv, hW, State.sameButNew.setDrawn hs s.drawn⟩, ?_, by decide⟩
  rw [h2]
  exact hd0
def lw_Q (_ : Array Value) (s : State) (o : Outcome) (t : State) : Prop := o = .returned (some (.int 1)) ∧ State.butDraws s t lw_cs (fun t1 => Framed s o t1 [] 600086 7301442)
def lw_Z (below : List Frame) (a : Array Value) (s : State) : State → Prop := fun t => ∃ o, t.status = .running ∧ Ended t below o ∧ lw_Q a s o t
/-- what holds at the law's entry: the machine, the code, the tables' words (any of lw_tbl by 'hts w (by decide +kernel)'), the script of L ints xs at the cell b, what the Statement gives of the start (any of its parts by flat_of_before) -/
def lw_At (p : Program) (s : State) (m : MethodId) (meth : Method) (c : Code) (b L : Nat) (xs : Nat → Int32) : Prop :=
  p.tables.exec = Jvm.exec ∧ c.code = code ∧ meth.sig.returnType = ret ∧ c.maxLocals = 5 ∧ s.vm.findClass R_law = some m.cls ∧ (∀ w ∈ lw_tbl, w.before #[Value.ref b] s = true) ∧ va_X b L xs s s.heap ∧ b < s.heap.size ∧ meth.locks = false ∧ (Jvm.Cond.and given_1 narrow_1).before #[Value.ref b] s = true ∧ c.exceptionTable.toList = [] ∧ meth.name = x.name
def am_nar : List Jvm.Cond := flatC (Jvm.Cond.and given_1 narrow_1)
def am_np : List Nat := [469, 477, 485, 493, 501, 509, 518, 705, 368, 382, 392, 402, 412, 423, 1098, 1104]
def am_tmS (j : Nat) : Term := .string (am_strs.getD j ("", 0, "")).1 (am_strs.getD j ("", 0, "")).2.1
def am_tmV (j : Nat) : Term := .field (am_tmS j) "java/lang/String" "value" "[B"
def am_nw (j : Nat) : List Jvm.Cond := .exactly (am_tmS j) "java/lang/String" :: .eq (.field (am_tmS j) "java/lang/String" "coder" "B") (.int 0) :: .arrayOf (am_tmV j) .byte :: .eq (.length (am_tmV j)) (.int (Int32.ofNat (am_txt.getD j []).length)) :: (List.range (am_txt.getD j []).length).map (fun i => .eq (.elem (am_tmV j) (.int (Int32.ofNat i))) (.int (Int32.ofInt ((am_txt.getD j []).getD i 0))))
theorem am_nchk : (List.range 16).all (fun j => decide ((am_nar.drop (am_np.getD j 0)).take (am_nw j).length = am_nw j)) = true := by decide +kernel
theorem am_nin {j : Nat} (hj : j < 16) : ∀ w ∈ am_nw j, w ∈ am_nar := by
  intro w hw
  have h := of_decide_eq_true (am_all am_nchk hj)
  rw [← h] at hw
  exact List.mem_of_mem_drop (List.mem_of_mem_take hw)
theorem am_srchk : (List.range 16).all (fun j => decide (Cond.stringRef (am_strs.getD j ("", 0, "")).1 (am_strs.getD j ("", 0, "")).2.1 (am_strs.getD j ("", 0, "")).2.2 ∈ lw_tbl)) = true := by decide +kernel
theorem am_ncchk : [(10, 11), (10, 12), (11, 10), (11, 12), (12, 10), (12, 11)].all (fun q => decide (Cond.not (.castable (am_cn q.1) (am_cn q.2)) ∈ am_nar)) = true := by decide +kernel
theorem am_ls1 : Cond.laysStatic Bundle.tN "UNASSIGNED_STACK" Bundle.steD ∈ lw_tbl := by decide +kernel
theorem am_ls2 : Cond.laysStatic Bundle.tN "SUPPRESSED_SENTINEL" Bundle.listD ∈ lw_tbl := by decide +kernel
theorem am_ls3 : Cond.laysStatic "java/lang/String" "COMPACT_STRINGS" "Z" ∈ lw_tbl := by decide +kernel
theorem am_ls4 : Cond.laysStatic "jdk/internal/util/Preconditions" "SIOOBE_FORMATTER" "Ljava/util/function/BiFunction;" ∈ lw_tbl := by decide +kernel
theorem am_li1 : Cond.initialized Bundle.tN ∈ lw_tbl := by decide +kernel
theorem am_li3 : Cond.initialized "java/lang/String" ∈ lw_tbl := by decide +kernel
theorem am_li4 : Cond.initialized "jdk/internal/util/Preconditions" ∈ lw_tbl := by decide +kernel
theorem am_lo1' : Cond.arrayOver (.object "RodYard$State") ∈ lw_tbl := by decide +kernel
theorem am_lo2' : Cond.arrayOver (.array .int) ∈ lw_tbl := by decide +kernel
theorem am_nr1 : Cond.isRef (.static Bundle.tN "UNASSIGNED_STACK" Bundle.steD) ∈ am_nar := by decide +kernel
theorem am_nr2 : Cond.isRef (.static Bundle.tN "SUPPRESSED_SENTINEL" Bundle.listD) ∈ am_nar := by decide +kernel
theorem am_nr3 : Cond.eq (.static "java/lang/String" "COMPACT_STRINGS" "Z") (.int 1) ∈ am_nar := by decide +kernel
theorem am_nr4 : Cond.isRef (.static "jdk/internal/util/Preconditions" "SIOOBE_FORMATTER" "Ljava/util/function/BiFunction;") ∈ am_nar := by decide +kernel
theorem am_lo3' : Cond.arrayOver (.object "RodYardLaw$Rod") ∈ lw_tbl := by decide +kernel
theorem am_lo4' : Cond.arrayOver (.object "RodYardLaw$Order") ∈ lw_tbl := by decide +kernel
theorem am_ls5 : Cond.laysStatic "java/lang/Integer" "DigitOnes" "[B" ∈ lw_tbl := by decide +kernel
theorem am_ls6 : Cond.laysStatic "java/lang/Integer" "DigitTens" "[B" ∈ lw_tbl := by decide +kernel
theorem am_li5 : Cond.initialized "java/lang/Integer" ∈ lw_tbl := by decide +kernel
def am_dt (f : String) : Term := .static "java/lang/Integer" f "[B"
def am_dw (f : String) (h : Nat → Int) : List Jvm.Cond := .arrayOf (am_dt f) .byte :: .eq (.length (am_dt f)) (.int (Int32.ofNat 100)) :: (List.range 100).map (fun i => .eq (.elem (am_dt f) (.int (Int32.ofNat i))) (.int (Int32.ofInt (h i))))
theorem am_dchk1 : (am_nar.drop 12).take 102 = am_dw "DigitOnes" (fun i => 48 + (i : Int) % 10) := by decide +kernel
theorem am_dchk2 : (am_nar.drop 115).take 102 = am_dw "DigitTens" (fun i => 48 + (i : Int) / 10) := by decide +kernel
theorem am_din1 : ∀ w ∈ am_dw "DigitOnes" (fun i => 48 + (i : Int) % 10), w ∈ am_nar := by
  intro w hw
  rw [← am_dchk1] at hw
  exact List.mem_of_mem_drop (List.mem_of_mem_take hw)
theorem am_din2 : ∀ w ∈ am_dw "DigitTens" (fun i => 48 + (i : Int) / 10), w ∈ am_nar := by
  intro w hw
  rw [← am_dchk2] at hw
  exact List.mem_of_mem_drop (List.mem_of_mem_take hw)
/-- a private method of the superclass is selected on an object of the subclass -/
theorem am_selprv {y : MethodName} {C : String} {s : State} {args : Array Value} {n : Nat} (hy : y.cls ≠ "java/lang/invoke/MethodHandle" ∧ y.cls ≠ "java/lang/invoke/VarHandle")
    (hins : (Cond.instantiable C n).before args s = true) (hpriv : (Cond.privateMethod y).before args s = true) (hinst : (Cond.instanceMethod y).before args s = true) (hsame : (Cond.sameMethod y.cls y.cls y.name y.desc).before args s = true) :
    (Cond.selects C y y).before args s = true := by
  obtain ⟨c, k, hc, hk, -, hniab, -, -⟩ := Cond.instantiable_spec hins
  obtain ⟨mk, methM, hnamed, hmethM, -, -⟩ := Cond.instanceMethod_spec hinst
  obtain ⟨cn, ck, r1, hcn, hck, hni, hf, hn1⟩ := Cond.sameMethod_found hsame
  have hfound : s.methodFound? y.cls y.name y.desc = some mk := State.methodFound?_of_named hnamed hy
  have hcls : mk.cls = cn := Option.some.inj ((findClass_of_methodNamed hnamed).symm.trans hcn)
  have hsel : selectMethod {} s.vm c mk = .method mk := selectMethod_private hmethM (Cond.privateMethod_at hpriv mk methM hnamed hmethM)
  simp only [Cond.before, Cond.holds, Cond.value, hc, hfound, hnamed, hsel, hcls, hck]
  simp
  exact hni
theorem am_sound_t {w : Jvm.Cond} (h : w ∈ am_ws) : w ∈ am_tb2 := (List.mem_filter.mp h).1
theorem am_pv0 : Cond.privateMethod ⟨"java/lang/AbstractStringBuilder", "ensureCapacityInternal", "(I)V"⟩ ∈ lw_tbl ∧ Cond.instanceMethod ⟨"java/lang/AbstractStringBuilder", "ensureCapacityInternal", "(I)V"⟩ ∈ lw_tbl ∧ Cond.sameMethod "java/lang/AbstractStringBuilder" "java/lang/AbstractStringBuilder" "ensureCapacityInternal" "(I)V" ∈ lw_tbl := ⟨by decide +kernel, by decide +kernel, by decide +kernel⟩
theorem am_pv1 : Cond.privateMethod ⟨"java/lang/AbstractStringBuilder", "newCapacity", "(I)I"⟩ ∈ lw_tbl ∧ Cond.instanceMethod ⟨"java/lang/AbstractStringBuilder", "newCapacity", "(I)I"⟩ ∈ lw_tbl ∧ Cond.sameMethod "java/lang/AbstractStringBuilder" "java/lang/AbstractStringBuilder" "newCapacity" "(I)I" ∈ lw_tbl := ⟨by decide +kernel, by decide +kernel, by decide +kernel⟩
theorem am_pv2 : Cond.privateMethod ⟨"java/lang/AbstractStringBuilder", "putStringAt", "(ILjava/lang/String;)V"⟩ ∈ lw_tbl ∧ Cond.instanceMethod ⟨"java/lang/AbstractStringBuilder", "putStringAt", "(ILjava/lang/String;)V"⟩ ∈ lw_tbl ∧ Cond.sameMethod "java/lang/AbstractStringBuilder" "java/lang/AbstractStringBuilder" "putStringAt" "(ILjava/lang/String;)V" ∈ lw_tbl := ⟨by decide +kernel, by decide +kernel, by decide +kernel⟩
theorem am_pv3 : Cond.privateMethod ⟨"java/lang/AbstractStringBuilder", "inflateIfNeededFor", "(Ljava/lang/String;)V"⟩ ∈ lw_tbl ∧ Cond.instanceMethod ⟨"java/lang/AbstractStringBuilder", "inflateIfNeededFor", "(Ljava/lang/String;)V"⟩ ∈ lw_tbl ∧ Cond.sameMethod "java/lang/AbstractStringBuilder" "java/lang/AbstractStringBuilder" "inflateIfNeededFor" "(Ljava/lang/String;)V" ∈ lw_tbl := ⟨by decide +kernel, by decide +kernel, by decide +kernel⟩
theorem am_isb : Cond.instantiable "java/lang/StringBuilder" 4 ∈ lw_tbl := by decide +kernel
theorem am_hts2 {args : Array Value} {s : State} (hts : ∀ w ∈ lw_tbl, w.before args s = true) : ∀ w ∈ am_tb2, w.before args s = true := by
  intro w hw
  rcases List.mem_append.mp hw with h | h
  · exact hts w h
  · unfold am_sel2 at h
    simp only [List.mem_cons, List.not_mem_nil, or_false] at h
    rcases h with rfl | rfl | rfl | rfl
    · exact am_selprv ⟨by decide, by decide⟩ (hts _ am_isb) (hts _ am_pv0.1) (hts _ am_pv0.2.1) (hts _ am_pv0.2.2)
    · exact am_selprv ⟨by decide, by decide⟩ (hts _ am_isb) (hts _ am_pv1.1) (hts _ am_pv1.2.1) (hts _ am_pv1.2.2)
    · exact am_selprv ⟨by decide, by decide⟩ (hts _ am_isb) (hts _ am_pv2.1) (hts _ am_pv2.2.1) (hts _ am_pv2.2.2)
    · exact am_selprv ⟨by decide, by decide⟩ (hts _ am_isb) (hts _ am_pv3.1) (hts _ am_pv3.2.1) (hts _ am_pv3.2.2)
