/-! THE SMALL MACHINE AND THE MACHINE: what stands for what -/
/-- the law's start, the classes' numbers and slots, the arrays' classes, what the references below 100 are, the script -/
abbrev am_X : Type := State × va_G × (Nat → ClassId) × (Nat → Value) × Nat × (Nat → Int32)
def xS (X : am_X) : State := X.1
def xB (X : am_X) : Nat := X.1.heap.size
def xD (X : am_X) : va_G := X.2.1
def xA (X : am_X) : Nat → ClassId := X.2.2.1
def xP (X : am_X) : Nat → Value := X.2.2.2.1
def xL (X : am_X) : Nat := X.2.2.2.2.1
def xX (X : am_X) : Nat → Int32 := X.2.2.2.2.2
def xU (X : am_X) : Nat → Prop := fun q => xB X ≤ q
def am_aty (k : Nat) : FieldType := match k with
  | 20 => .int
  | 21 => .byte
  | 22 => .boolean
  | 23 => .object "RodYardLaw$Rod"
  | 24 => .object "RodYardLaw$Order"
  | 25 => .array .int
  | _ => .object "RodYard$State"
def am_tys (X : am_X) : List (ClassId × FieldType) := [(xA X 20, .int), (xA X 21, .byte), (xA X 22, .boolean), (xA X 23, .object "RodYardLaw$Rod"), (xA X 24, .object "RodYardLaw$Order"), (xA X 25, .array .int), (xA X 26, .object "RodYard$State")]
/-- what follows of the tables' words on private methods of the superclass -/
def am_sel2 : List Jvm.Cond := [.selects "java/lang/StringBuilder" ⟨"java/lang/AbstractStringBuilder", "ensureCapacityInternal", "(I)V"⟩ ⟨"java/lang/AbstractStringBuilder", "ensureCapacityInternal", "(I)V"⟩, .selects "java/lang/StringBuilder" ⟨"java/lang/AbstractStringBuilder", "newCapacity", "(I)I"⟩ ⟨"java/lang/AbstractStringBuilder", "newCapacity", "(I)I"⟩, .selects "java/lang/StringBuilder" ⟨"java/lang/AbstractStringBuilder", "putStringAt", "(ILjava/lang/String;)V"⟩ ⟨"java/lang/AbstractStringBuilder", "putStringAt", "(ILjava/lang/String;)V"⟩, .selects "java/lang/StringBuilder" ⟨"java/lang/AbstractStringBuilder", "inflateIfNeededFor", "(Ljava/lang/String;)V"⟩ ⟨"java/lang/AbstractStringBuilder", "inflateIfNeededFor", "(Ljava/lang/String;)V"⟩]
def am_tb2 : List Jvm.Cond := lw_tbl ++ am_sel2
def am_ws : List Jvm.Cond := am_tb2.filter goodWord
def am_msgs : List (String × Nat × String) := am_strs
def am_Str (X : am_X) (j a v : Nat) : Prop := xP X (10 + 2 * j) = .ref a ∧ xP X (11 + 2 * j) = .ref v ∧ va_O "java/lang/String" a (xU X) (xS X) (xS X).heap ∧ va_OF "java/lang/String" "coder" "B" (.int 0) a (xU X) (xS X) (xS X).heap ∧
  va_OF "java/lang/String" "value" "[B" (.ref v) a (xU X) (xS X) (xS X).heap ∧ va_T .byte v (am_txt.getD j []).length (fun i => .int (Int32.ofInt ((am_txt.getD j []).getD i 0))) (xU X) (xS X) (xS X).heap
def am_Gl (X : am_X) : Prop :=
  va_K (xD X) am_cl (am_tys X) (xS X) ∧
  (vx_Zq Bundle.tN "UNASSIGNED_STACK" Bundle.steD (xU X) (xS X) (xS X).heap ∧ vx_Zq Bundle.tN "SUPPRESSED_SENTINEL" Bundle.listD (xU X) (xS X) (xS X).heap) ∧
  (va_Z "java/lang/String" "COMPACT_STRINGS" "Z" (.int 1) (xU X) (xS X) (xS X).heap ∧ va_Z "jdk/internal/util/Preconditions" "SIOOBE_FORMATTER" "Ljava/util/function/BiFunction;" (xP X 2) (xU X) (xS X) (xS X).heap) ∧
  (∀ j, j < 16 → ∃ a v, am_Str X j a v) ∧
  (∃ b, xP X 1 = .ref b ∧ va_X b (xL X) (xX X) (xS X) (xS X).heap ∧ b < xB X ∧ xL X < 2147483648) ∧
  (∀ own is tx, Cond.stringRef own is tx ∈ tables_1 → ∃ sa, vk_R own is tx sa (xS X)) ∧
  (∀ j, j < 16 → vk_R (am_strs.getD j ("", 0, "")).1 (am_strs.getD j ("", 0, "")).2.1 (am_strs.getD j ("", 0, "")).2.2 (match xP X (10 + 2 * j) with | .ref a => a | _ => 0) (xS X)) ∧
  (∀ E T, 10 ≤ E → E < 13 → 10 ≤ T → T < 13 → E ≠ T → va_Nc (am_cn E) (am_cn T) (xS X)) ∧
  (∀ r, r < 100 → xP X r = .null ∨ ∃ a, xP X r = .ref a) ∧
  (∀ w ∈ lw_tbl, vx_ot w = true → w.before #[] (xS X) = true) ∧ (va_AO "RodYard$State" (xS X) ∧ va_AO "RodYardLaw$Rod" (xS X) ∧ va_AO "RodYardLaw$Order" (xS X)) ∧ (Cond.arrayOver (.array .int)).before #[] (xS X) = true ∧
  (∃ v, xP X 50 = .ref v ∧ va_Z "java/lang/Integer" "DigitOnes" "[B" (.ref v) (xU X) (xS X) (xS X).heap ∧ va_T .byte v 100 (fun i => .int (Int32.ofInt (48 + (i : Int) % 10))) (xU X) (xS X) (xS X).heap) ∧
  (∃ v, xP X 51 = .ref v ∧ va_Z "java/lang/Integer" "DigitTens" "[B" (.ref v) (xU X) (xS X) (xS X).heap ∧ va_T .byte v 100 (fun i => .int (Int32.ofInt (48 + (i : Int) / 10))) (xU X) (xS X) (xS X).heap)
def am_ad (X : am_X) (r : Nat) : Value := if r = 0 then .null else if r < 100 then xP X r else .ref (xB X + (r - 100))
def am_V (X : am_X) (v : AV) : Value := match v with
  | .inl x => .int (Int32.ofInt x)
  | .inr (.inl r) => am_ad X r
  | .inr (.inr (.inl x)) => .long (Int64.ofInt x)
  | .inr (.inr (.inr (.inl x))) => .float (am_f x)
  | .inr (.inr (.inr (.inr (.inl x)))) => .double (am_d x)
  | .inr (.inr (.inr (.inr (.inr _)))) => .null
def am_isU (v : AV) : Bool := match v with
  | .inr (.inr (.inr (.inr (.inr _)))) => true
  | _ => false
/-- the locals that hold something -/
def am_lv (X : am_X) (ls : List AV) : List (Nat × Value) := (ls.zipIdx.filter (fun q => !am_isU q.1)).map (fun q => (q.2, am_V X q.1))
def am_k0 (r : Nat) : Nat := if r = 1 then 28 else if 10 ≤ r ∧ r < 42 then (if r % 2 = 0 then 14 else 27) else if r = 50 ∨ r = 51 then 27 else 99
def am_fv (X : am_X) (g : AG) (M : AM) (r : Nat) : Nat → Value := fun k => if am_fkd (gK g r) k % 4 = 1 then am_ad X (gR g r k) else .int (Int32.ofInt (M r k))
def am_av (X : am_X) (g : AG) (M : AM) (r : Nat) : Nat → Value := fun j =>
  if gK g r < 23 then .int (Int32.ofInt (M r j)) else am_ad X (gR g r j)
def am_OK (X : am_X) (g : AG) (M : AM) (H : Heap) (r : Nat) : Prop :=
  (am_ob (gK g r) ∧ t_OB (xB X + (r - 100)) ((xD X).1 (gK g r)) (am_nf (gK g r)) ((xD X).2 (gK g r)) H (am_fv X g M r)) ∨
  (20 ≤ gK g r ∧ gK g r < 27 ∧ gL g r < 1000000 ∧ H[xB X + (r - 100)]? = some (arrV (xA X (gK g r)) (gL g r) (am_av X g M r)) ∧ (gK g r = 21 → ∀ j : Nat, j < gL g r → -128 ≤ M r j ∧ M r j < 128)) ∨ gK g r = 30
def am_Old (X : am_X) (g : AG) (M : AM) : Prop :=
  (∀ r, r < 100 → gK g r = am_k0 r) ∧ gL g 1 = xL X ∧ (∀ j : Nat, j < xL X → M 1 j = (xX X j).toInt) ∧
  (∀ j, j < 16 → gR g (10 + 2 * j) 0 = 11 + 2 * j ∧ gL g (11 + 2 * j) = (am_txt.getD j []).length ∧ ∀ i : Nat, i < (am_txt.getD j []).length → M (11 + 2 * j) i = (am_txt.getD j []).getD i 0) ∧
  (gL g 50 = 100 ∧ ∀ i : Nat, i < 100 → M 50 i = 48 + (i : Int) % 10) ∧ (gL g 51 = 100 ∧ ∀ i : Nat, i < 100 → M 51 i = 48 + (i : Int) / 10)
def am_Rel (X : am_X) (g : AG) (M : AM) (H : Heap) : Prop :=
  H.size = xB X + gN g ∧ (∀ q, q < xB X → H[q]? = (xS X).heap[q]?) ∧ am_Old X g M ∧ (∀ r, 100 + gN g ≤ r → gK g r = 99) ∧ (∀ r, 100 ≤ r → r < 100 + gN g → am_OK X g M H r)
def am_Fx (X : am_X) (p : Program) (l : Launch) (s : State) (m : MethodId) (args : Array Value) (meth : Method) (c : Code) (mi : Nat) : Prop :=
  p.tables.exec = Jvm.exec ∧ c.code = am_code mi ∧ c.maxLocals = am_nL mi ∧ s.vm.findClass (am_own mi) = some m.cls ∧ (∀ w ∈ am_ws, w.before args s = true) ∧ meth.sig.returnType = am_rt mi ∧ meth.locks = false ∧
  c.exceptionTable.toList = tableOf (am_hh mi) ∧ meth.name = (am_name mi).name ∧ l.stackTraces = false ∧ (xS X).WarmedH s.vm ∧ xB X ≤ s.heap.size ∧ (∀ q, q < xB X → s.heap[q]? = (xS X).heap[q]?)
theorem am_dec {mi pc : Nat} {i : Instr} (h : am_ins mi pc = some i) (hn : am_isw i = false) : decode (am_code mi) pc = .ok (i, am_len i) := by
  unfold am_ins at h
  split at h
  · next i' n e =>
    split at h
    · next hc =>
      cases h
      rw [hn] at hc
      have : n = am_len i := by simpa using hc
      rw [e, this]
    · cases h
  · cases h
theorem am_decS {mi pc : Nat} {dflt lo hi : Int} {offs : Array Int} (h : am_ins mi pc = some (.tableswitch dflt lo hi offs)) : ∃ n, decode (am_code mi) pc = .ok (.tableswitch dflt lo hi offs, n) := by
  unfold am_ins at h
  split at h
  · next i' n e =>
    split at h
    · cases h; exact ⟨n, e⟩
    · cases h
  · cases h
theorem am_catV (X : am_X) (hG : am_Gl X) (v : AV) : (am_V X v).category = am_cat v := by
  have hr := hG.2.2.2.2.2.2.2.2.1
  rcases v with x | r | x | x | x | x
  · rfl
  · show (am_ad X r).category = 1
    unfold am_ad
    split
    · rfl
    · split
      · next h1 h2 =>
        rcases hr r h2 with h | ⟨a, h⟩ <;> rw [h] <;> rfl
      · rfl
  all_goals rfl
theorem am_adcase (X : am_X) (hG : am_Gl X) (r : Nat) : am_ad X r = .null ∨ ∃ a, am_ad X r = .ref a := by
  have hr := hG.2.2.2.2.2.2.2.2.1
  unfold am_ad
  split
  · exact Or.inl rfl
  · split
    · next h1 h2 => exact hr r h2
    · exact Or.inr ⟨_, rfl⟩
theorem am_lv_in {X : am_X} {ls : List AV} {i : Nat} {v : AV} (h : ls[i]? = some v) (hu : am_isU v = false) : (i, am_V X v) ∈ am_lv X ls := by
  unfold am_lv
  refine List.mem_map.mpr ⟨(v, i), List.mem_filter.mpr ⟨?_, by rw [hu]; rfl⟩, rfl⟩
  exact List.mem_zipIdx_iff_getElem?.mpr h
theorem am_lv_out {X : am_X} {ls : List AV} {q : Nat × Value} (h : q ∈ am_lv X ls) : ∃ v, ls[q.1]? = some v ∧ am_isU v = false ∧ q.2 = am_V X v := by
  unfold am_lv at h
  obtain ⟨⟨v, i⟩, h1, rfl⟩ := List.mem_map.mp h
  obtain ⟨h2, h3⟩ := List.mem_filter.mp h1
  exact ⟨v, List.mem_zipIdx_iff_getElem?.mp h2, by simpa using h3, rfl⟩
theorem am_lat {X : am_X} {ls : List AV} {lsM : Array Slot} {nL i : Nat} {v : AV} (h : lv_has lsM nL (am_lv X ls)) (hv : ls[i]? = some v) (hu : am_isU v = false) : lsM[i]? = some (.val (am_V X v)) := h.2.2 _ (am_lv_in hv hu)
theorem am_lv_sub {X : am_X} {ls' : List AV} {lsM : Array Slot} {nL : Nat} {l : List (Nat × Value)} (h : lv_has lsM nL l) (hs : ∀ i v, ls'[i]? = some v → am_isU v = false → (i, am_V X v) ∈ l) : lv_has lsM nL (am_lv X ls') := by
  refine ⟨h.1, h.2.1, fun q hq => h.2.2 q ?_⟩
  obtain ⟨v, h1, h2, h3⟩ := am_lv_out hq
  have := hs q.1 v h1 h2
  rw [← h3] at this
  exact this
theorem am_st1_len (ls : List AV) (k : Nat) (v : AV) : (am_st1 ls k v).length = ls.length := by
  unfold am_st1 am_st0
  cases k with
  | zero => simp
  | succ j => dsimp only; split <;> simp
theorem am_st1_get {ls : List AV} {k i : Nat} {v w : AV} (h : (am_st1 ls k v)[i]? = some w) (hu : am_isU w = false) : (i = k ∧ w = v) ∨ (i ≠ k ∧ ls[i]? = some w ∧ ¬ (i + 1 = k ∧ am_cat w = 2)) := by
  unfold am_st1 at h
  by_cases hk : k = i
  · generalize am_st0 ls k = l1 at h
    rw [List.getElem?_set, if_pos hk] at h
    by_cases hl : k < l1.length
    · rw [if_pos hl] at h
      cases h; exact Or.inl ⟨hk.symm, rfl⟩
    · rw [if_neg hl] at h; cases h
  · rw [List.getElem?_set, if_neg hk] at h
    refine Or.inr ⟨fun e => hk e.symm, ?_⟩
    cases k with
    | zero => exact ⟨h, fun e => by omega⟩
    | succ j =>
      unfold am_st0 at h
      dsimp only at h
      split at h
      · next hc =>
        rw [List.getElem?_set] at h
        by_cases hj : j = i
        · rw [if_pos hj] at h
          split at h
          · cases h; cases hu
          · cases h
        · rw [if_neg hj] at h
          exact ⟨h, fun e => hj (by omega)⟩
      · next hc =>
        refine ⟨h, fun e => hc ?_⟩
        have hj : j = i := by omega
        subst hj
        rw [h]
        show (am_cat w == 2) = true
        rw [e.2]; rfl
theorem am_lv_st1 {X : am_X} (hG : am_Gl X) {ls : List AV} {lsM : Array Slot} {nL k : Nat} {v : AV} (h : lv_has lsM nL ((k, am_V X v) :: (am_lv X ls).filter (fun q => !(q.1 == k) && !(q.1 + 1 == k && q.2.category == 2)))) : lv_has lsM nL (am_lv X (am_st1 ls k v)) := by
  refine am_lv_sub h fun i w hw hu => ?_
  rcases am_st1_get hw hu with ⟨rfl, rfl⟩ | ⟨h1, h2, h3⟩
  · exact List.mem_cons_self
  · refine List.mem_cons_of_mem _ (List.mem_filter.mpr ⟨am_lv_in h2 hu, ?_⟩)
    simp only [am_catV X hG]
    simp [h1, h3]
    omega
theorem am_lv_st2 {X : am_X} (hG : am_Gl X) {ls : List AV} {lsM : Array Slot} {nL k : Nat} {v : AV} (h : lv_has lsM nL ((k, am_V X v) :: (am_lv X ls).filter (fun q => !(q.1 == k) && (!(q.1 == k + 1) && !(q.1 + 1 == k && q.2.category == 2))))) : lv_has lsM nL (am_lv X (am_st2 ls k v)) := by
  refine am_lv_sub h fun i w hw hu => ?_
  unfold am_st2 at hw
  rw [List.getElem?_set] at hw
  by_cases hk : k + 1 = i
  · rw [if_pos hk] at hw
    split at hw
    · cases hw; cases hu
    · cases hw
  rw [if_neg hk] at hw
  rcases am_st1_get hw hu with ⟨rfl, rfl⟩ | ⟨h1, h2, h3⟩
  · exact List.mem_cons_self
  · refine List.mem_cons_of_mem _ (List.mem_filter.mpr ⟨am_lv_in h2 hu, ?_⟩)
    simp only [am_catV X hG]
    simp [h1, Ne.symm hk]
    omega
