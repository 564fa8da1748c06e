/-! THE SMALL MACHINE AND THE MACHINE: ends, calls, a whole run -/
def am_Qc (X : am_X) (out : AO) (g' : AG) (M' : AM) : Array Value → State → Outcome → State → Prop := fun _ _ o t => ∃ v : Option AV, out = .inl v ∧ o = .returned (v.map (am_V X)) ∧ am_Rel X g' M' t.heap
def am_XC (X : am_X) (out : AO) (g' : AG) (M' : AM) : String → State → State → Prop := fun E _ t => ∃ ci : Nat, out = .inr ci ∧ E = am_cn ci ∧ 10 ≤ ci ∧ ci < 13 ∧ am_Rel X g' M' t.heap
def am_rm (d mc ms : Nat) : Room := { frames := d + 10, cells := mc, slots := ms, locals := 60 * d + 300 }
/-- what a run of the small machine from here says of the machine, for f steps -/
def am_Bd (X : am_X) (l : Launch) (f : Nat) : Prop :=
  ∀ (d mi pc : Nat) (ls st : List AV) (g : AG) (M : AM) (out : AO) (g' : AG) (M' : AM), am_exec f d mi pc ls st g M = some (out, g', M') →
    ∀ (p : Program) (e : Env) (R : Room) (s : State) (m : MethodId) (args : Array Value) (below : List Frame) (meth : Method) (c : Code) (H : Heap) (locs : List Loc) (cells slots mc ms : Nat) (lsM : Array Slot),
      am_Fx X p l s m args meth c mi → am_Rel X g M H → lv_has lsM (am_nL mi) (am_lv X ls) → ls.length = am_nL mi → (∀ q ∈ locs, xB X ≤ q.base) → d + 10 ≤ R.frames → 60 * d + 300 ≤ R.locals →
      cells + gN g' ≤ mc + gN g → slots + gS g' ≤ ms + gS g → mc ≤ R.cells → ms ≤ R.slots →
      W p l e R s m args below meth c H locs cells slots (vx_MQ below (am_Qc X out g' M') (am_XC X out g' M') args s mc ms (xU X)) (F0 m pc lsM (st.map (am_V X)))
theorem am_cats {as : List AV} : as.length ≤ (as.map am_cat).sum := by
  induction as with
  | nil => exact Nat.le_refl _
  | cons a l ih =>
    rw [List.map_cons, List.sum_cons, List.length_cons]
    have : 1 ≤ am_cat a := by rcases a with x | r | x | x | x | x <;> first | exact Nat.le_refl 1 | exact Nat.le_succ 1
    omega
theorem am_cat1 {as : List AV} (h : (as.map am_cat).sum = as.length) : ∀ v ∈ as, am_cat v = 1 := by
  induction as with
  | nil => intro v hv; cases hv
  | cons a l ih =>
    rw [List.map_cons, List.sum_cons, List.length_cons] at h
    have h1 : 1 ≤ am_cat a := by rcases a with x | r | x | x | x | x <;> first | exact Nat.le_refl 1 | exact Nat.le_succ 1
    have h2 := am_cats (as := l)
    intro v hv
    rcases List.mem_cons.mp hv with rfl | hv
    · omega
    · exact ih (by omega) v hv
theorem am_lvargs {vs : List Value} (h : ∀ v ∈ vs, v.category = 1) : ∀ (k i : Nat) (v : Value), vs[i]? = some v → (k + i, v) ∈ lv_args k vs := by
  induction vs with
  | nil => intro k i v hv; cases hv
  | cons a l ih =>
    intro k i v hv
    rw [lv_args, if_neg (by rw [h a List.mem_cons_self]; decide)]
    cases i with
    | zero => cases hv; exact List.mem_cons_self
    | succ j =>
      have := ih (fun v hv => h v (List.mem_cons_of_mem _ hv)) (k + 1) j v hv
      rw [show k + 1 + j = k + (j + 1) by omega] at this
      exact List.mem_cons_of_mem _ this
theorem am_lgsl {vs : List Value} (h : ∀ v ∈ vs, v.category = 1) : (lg_sl vs).length = vs.length := by
  induction vs with
  | nil => rfl
  | cons a l ih =>
    show (List.flatMap _ (a :: l)).length = _
    rw [List.flatMap_cons, List.length_append, if_neg (by rw [h a List.mem_cons_self]; decide)]
    have := ih (fun v hv => h v (List.mem_cons_of_mem _ hv))
    unfold lg_sl at this
    rw [this, List.length_cons, List.length_cons]
    simp
    omega
theorem am_entry {X : am_X} (hG : am_Gl X) {as : List AV} {n : Nat} (h : ∀ v ∈ as, am_cat v = 1) (hn : as.length ≤ n) : lv_has ((lg_sl (as.map (am_V X)) ++ List.replicate (n - (lg_sl (as.map (am_V X))).length) Slot.unset).toArray) n (am_lv X (as ++ List.replicate (n - as.length) aU)) := by
  have hc : ∀ v ∈ as.map (am_V X), v.category = 1 := fun v hv => by
    obtain ⟨w, hw, rfl⟩ := List.mem_map.mp hv
    rw [am_catV X hG]; exact h w hw
  have hl : (lg_sl (as.map (am_V X))).length = as.length := by rw [am_lgsl hc, List.length_map]
  refine am_lv_sub (lv_entry (as.map (am_V X)) (n := n) (by omega)) fun i v hv hu => ?_
  by_cases hi : i < as.length
  · rw [List.getElem?_append_left hi] at hv
    have := am_lvargs hc 0 i (am_V X v) (by rw [List.getElem?_map, hv]; rfl)
    rw [Nat.zero_add] at this
    exact this
  · rw [List.getElem?_append_right (by omega)] at hv
    have := List.eq_of_mem_replicate (List.mem_of_getElem? hv)
    subst this
    cases hu
section SIM
variable {p : Program} {l : Launch} {e : Env} {R : Room} {s : State} {m : MethodId} {args : Array Value} {below : List Frame} {meth : Method} {c : Code} {H : Heap} {locs : List Loc} {cells slots : Nat} {Q : State → Prop}
variable {X : am_X} {mi pc pc' : Nat} {ls ls' st st' : List AV} {g g' : AG} {M M' : AM} {lsM : Array Slot}
theorem am_mokf {y : Nat} (h0 : am_vd y) : am_cw y ∈ am_ws ∧ plainName (am_name y).cls = true ∧ am_own y = (am_name y).cls ∧ am_nL y ≤ 40 ∧ ((am_name y).cls ≠ "java/lang/invoke/MethodHandle" ∧ (am_name y).cls ≠ "java/lang/invoke/VarHandle") ∧ (parseMethodDescriptor (am_name y).desc).map (fun d => d.parameters.length) = some (am_na y) := by
  have h := am_m_ok y h0.1 h0.2.1
  unfold am_mok at h
  rw [h0.2.2, Bool.false_or] at h
  simp only [Bool.and_eq_true, decide_eq_true_eq] at h
  obtain ⟨⟨⟨⟨⟨a, b⟩, c1⟩, d⟩, e1⟩, f⟩ := h
  exact ⟨List.mem_filter.mpr ⟨List.mem_append_left _ (am_cw_in y h0), a⟩, b, c1, d, e1, f⟩
theorem am_ws_good : ∀ w ∈ am_ws, (w.onTables && w.keeps) = true ∨ ∃ ty, w = .arrayClass ty := fun w h => good_of_word (List.mem_filter.mp h).2
/-- the contract of a method, out of its run in the small machine -/
theorem am_met (hG : am_Gl X) (hlt : l.stackTraces = false) {f : Nat} (hB : am_Bd X l f) {d y : Nat} {as : List AV} {out : AO} (h1 : am_vd y) (hx : am_exec f d y 0 (am_pad y as) [] g M = some (out, g', M')) (hlen : as.length ≤ am_nL y) (hcat : ∀ v ∈ as, am_cat v = 1) :
    vx_Met l (am_name y) (am_cw y :: am_ws) (am_rm d (gN g' - gN g) (gS g' - gS g)) (fun a U => a = (as.map (am_V X)).toArray ∧ am_Rel X g M U.heap ∧ (xS X).WarmedH U.vm) (am_Qc X out g' M') (am_XC X out g' M') (gN g' - gN g) (gS g' - gS g) (xU X) := by
  obtain ⟨k1, k2, k3, k4, k5, k6⟩ := am_mokf h1
  have hm := am_exec_mono _ _ _ _ _ _ _ _ _ _ _ hx
  have core : ∀ (p : Program) (e : Env) (s : State) (m : MethodId) (args : Array Value) (below : List Frame) (meth : Method) (c : Code) (s₁ : State), BodyLoose p l (am_name y) (headSpec (am_cw y :: am_ws) (am_rm d (gN g' - gN g) (gS g' - gS g))) (am_code y) (am_nL y) (am_rt y) e s m args below meth c s₁ → c.maxLocals = am_nL y →
      c.exceptionTable.toList = tableOf (am_hh y) → args = (as.map (am_V X)).toArray → am_Rel X g M s.heap → (xS X).WarmedH s.vm →
      W p l e (am_rm d (gN g' - gN g) (gS g' - gS g)) s m args below meth c s.heap [] 0 0 (vx_MQ below (am_Qc X out g' M') (am_XC X out g' M') args s (gN g' - gN g) (gS g' - gS g) (xU X)) (entryFrame m args (am_nL y)) := by
    intro p e s m args below meth c s₁ B hml htab ha hRel hW
    subst ha
    rw [lg_entry_eq]
    have hown := findClass_of_methodNamed B.named
    have hF : am_Fx X p l s m (as.map (am_V X)).toArray meth c y := ⟨B.exec, B.bytes, hml, by rw [k3]; exact hown, fun w hw => atoms_spec (ws := am_cw y :: am_ws) B.pre w (List.mem_cons_of_mem _ hw), B.returns, B.notSynchronized, htab, (name_of_methodNamed B.named B.method).1, hlt, hW, by rw [hRel.1]; exact Nat.le_add_right _ _, hRel.2.1⟩
    have hgo := hB d y 0 (am_pad y as) [] g M out g' M' hx p e (am_rm d (gN g' - gN g) (gS g' - gS g)) s m (as.map (am_V X)).toArray below meth c s.heap [] 0 0 (gN g' - gN g) (gS g' - gS g) _ hF hRel (am_entry hG hcat hlen) (by unfold am_pad; rw [List.length_append, List.length_replicate]; omega) (fun q hq => by cases hq) (Nat.le_refl _) (Nat.le_refl _) (by omega) (by omega) (Nat.le_refl _) (Nat.le_refl _)
    exact hgo
  by_cases hh : am_hh y = []
  · refine vx_ofW (cc := am_code y) (maxL := am_nL y) (ret := am_rt y) k2 (show am_cw y :: am_ws = Cond.code (am_name y) (am_code y) (am_nL y) (am_rt y) :: am_ws by unfold am_cw; rw [if_pos hh]) ?_
    intro p e s m args below meth c s₁ B hml hno hv
    obtain ⟨ha, hRel, hW⟩ := hv
    refine core p e s m args below meth c s₁ B hml ?_ ha hRel hW
    rw [hh]
    cases ht : c.exceptionTable.toList with
    | nil => rfl
    | cons x r => exact absurd (hno x (by rw [ht]; exact List.mem_cons_self)) (fun h => h)
  · have hcw : am_cw y = Cond.codeWith (am_name y) (am_code y) (am_nL y) (am_rt y) (am_hh y) := by unfold am_cw; rw [if_neg hh]
    refine vx_ofWH (cc := am_code y) (maxL := am_nL y) (ret := am_rt y) (hh := am_hh y) k2 (show am_cw y :: am_ws = Cond.codeWith (am_name y) (am_code y) (am_nL y) (am_rt y) (am_hh y) :: am_ws by rw [hcw]) ?_
    intro p e s m args below meth c s₁ B hml hv
    obtain ⟨ha, hRel, hW⟩ := hv
    refine core p e s m args below meth c s₁ B hml ?_ ha hRel hW
    have hw := atoms_spec (ws := am_cw y :: am_ws) B.pre (am_cw y) List.mem_cons_self
    rw [hcw] at hw
    exact vx_table (x := am_name y) B hw
/-- the ends by a return -/
theorem am_end (hG : am_Gl X) (hF : am_Fx X p l s m args meth c mi) (hR : am_Rel X g M H) (hq : ∀ q ∈ locs, xB X ≤ q.base) {i : Instr} {out : AO} {mc ms : Nat} (hc : cells ≤ mc) (hs : slots ≤ ms) (hi : am_ins mi pc = some i) (h : am_ret mi pc i st g = some (out, g')) :
    W p l e R s m args below meth c H locs cells slots (vx_MQ below (am_Qc X out g' M) (am_XC X out g' M) args s mc ms (xU X)) (F0 m pc lsM (st.map (am_V X))) := by
  obtain ⟨hx, hb, hml, hown, hts, hrt, hlk, -⟩ := hF
  refine vx_ret ?_
  refine W.widen (k := mc) (n := ms) hc hs ?_
  unfold am_ret at h
  split at h
  · split at h
    · next x =>
      split at h
      · next hok =>
        cases h
        have hq1 : ∀ t : State, t.heap = H → s.WarmedH t.vm → am_Qc X (.inl (some (aI x))) g M args s (.returned (some (.int (Int32.ofInt x)))) t := fun t ht _ => ⟨_, rfl, rfl, by rw [ht]; exact hR⟩
        unfold am_rok at hok
        split at hok
        · next e1 => exact W.iret hx hb (hrt.trans e1) hq1 hq (am_dec hi rfl) hlk
        · next e1 =>
          simp only [Bool.or_eq_true, decide_eq_true_eq] at hok
          refine W.zret hx hb (hrt.trans e1) ?_ hq1 hq (am_dec hi rfl) hlk
          rcases hok with rfl | rfl <;> decide
        · next e1 =>
          simp only [Bool.and_eq_true, decide_eq_true_eq] at hok
          refine W.zret hx hb (hrt.trans e1) ?_ hq1 hq (am_dec hi rfl) hlk
          have h1 := (pk_charN (q := x.toNat) (by omega)).1
          unfold nI at h1
          rw [am_ofNat, Int.toNat_of_nonneg hok.1] at h1
          exact h1
        · next e1 =>
          simp only [Bool.and_eq_true, decide_eq_true_eq] at hok
          refine W.zret hx hb (hrt.trans e1) ?_ hq1 hq (am_dec hi rfl) hlk
          show Value.int _ = _
          rw [am_i2b, Int.bmod_eq_of_le (by omega) (by omega)]
        · cases hok
      · cases h
    · cases h
  · split at h
    · next r =>
      split at h
      · next n e1 =>
        cases h
        exact W.aret hx hb (hrt.trans e1) (Or.inl ⟨_, rfl⟩) (am_adcase X hG r) (fun t ht _ => ⟨_, rfl, rfl, by rw [ht]; exact hR⟩) hq (am_dec hi rfl) hlk
      · next n e1 =>
        cases h
        exact W.aret hx hb (hrt.trans e1) (Or.inr ⟨_, rfl⟩) (am_adcase X hG r) (fun t ht _ => ⟨_, rfl, rfl, by rw [ht]; exact hR⟩) hq (am_dec hi rfl) hlk
      · cases h
    · cases h
  · split at h
    · next x =>
      split at h
      · next e1 =>
        cases h
        exact W.lret hx hb (hrt.trans e1) (fun t ht _ => ⟨_, rfl, rfl, by rw [ht]; exact hR⟩) hq (am_dec hi rfl) hlk
      · cases h
    · cases h
  · split at h
    · next x =>
      split at h
      · next e1 =>
        cases h
        exact W.dret hx hb (hrt.trans e1) (fun t ht _ => ⟨_, rfl, rfl, by rw [ht]; exact hR⟩) hq (am_dec hi rfl) hlk
      · cases h
    · cases h
  · split at h
    · next x =>
      split at h
      · next e1 =>
        cases h
        exact W.fret hx hb (hrt.trans e1) (fun t ht _ => ⟨_, rfl, rfl, by rw [ht]; exact hR⟩) hq (am_dec hi rfl) hlk
      · cases h
    · cases h
  · split at h
    · split at h
      · next e1 =>
        cases h
        exact W.vret hx hb (hrt.trans e1) (fun t ht _ => ⟨none, rfl, rfl, by rw [ht]; exact hR⟩) hq (am_dec hi rfl) hlk
      · cases h
    · cases h
  · cases h
end SIM
