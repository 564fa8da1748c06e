/-! THE SMALL MACHINE: its tables are the claim's own words -/
def am_uT : List (List Nat) := [[381, 383, 385, 387, 389, 391, 393, 395, 397, 399, 401, 403, 405, 407, 409, 411], [342, 344, 346], [320, 322, 324, 326], [249, 251, 253, 255, 257, 259, 261, 263, 265], [158, 160, 162, 164, 166, 168], [215, 217, 219, 221, 223, 225, 227, 229, 231, 233], [359, 361], [299, 301, 303, 305], [280, 282], [1373, 1375, 1377, 1379, 1381, 1383, 1385, 1387, 1389, 1391, 1393, 1395, 1397, 1399, 1401, 1403, 1405, 1407, 1409, 1411, 1413, 1415, 1417, 1419, 1421, 1423, 1425, 1427, 1429, 1431, 1433, 1435, 1437, 1439, 1441, 1443]]
abbrev am_cr (ci : Nat) : vw_C := am_cl.getD ci ("?", am_F0, 0)
def am_has (k : Nat) (w : Jvm.Cond) : Bool := (match lw_tbl[k]? with
  | some v => decide (v = w)
  | none => false) && goodWord w
theorem am_has_in {k : Nat} {w : Jvm.Cond} (h : am_has k w = true) : w ∈ am_ws := by
  unfold am_has at h
  rw [Bool.and_eq_true] at h
  obtain ⟨h1, h2⟩ := h
  split at h1
  · next v e =>
    have := of_decide_eq_true h1
    subst this
    exact List.mem_filter.mpr ⟨List.mem_of_getElem? e, h2⟩
  · cases h1
theorem am_all {n : Nat} {f : Nat → Bool} (h : (List.range n).all f = true) {i : Nat} (hi : i < n) : f i = true := List.all_eq_true.mp h i (List.mem_range.mpr hi)
theorem am_nf_ok : ∀ ci, ci < 10 → (am_cl[ci]? = some (am_cr ci) ∧ (am_cr ci).2.2 = am_nf ci ∧ (am_cr ci).1 = am_cn ci) := by
  intro ci h
  rcases (show ci = 0 ∨ ci = 1 ∨ ci = 2 ∨ ci = 3 ∨ ci = 4 ∨ ci = 5 ∨ ci = 6 ∨ ci = 7 ∨ ci = 8 ∨ ci = 9 by omega) with rfl | rfl | rfl | rfl | rfl | rfl | rfl | rfl | rfl | rfl <;> exact ⟨rfl, by decide +kernel, by decide +kernel⟩
theorem am_u_chk : (List.range 10).all (fun ci => (List.range (am_nf ci)).all (fun k => am_has ((am_uT.getD ci []).getD k 0) (u_lay (am_cr ci).1 (am_cr ci).2.1 k))) = true := by decide +kernel
theorem am_uok {ci : Nat} (h : ci < 10) : ∀ w ∈ u_ws (am_cr ci).1 (am_cr ci).2.1 (am_cr ci).2.2, w ∈ am_ws := by
  intro w hw
  obtain ⟨k, hk, rfl⟩ := List.mem_map.mp hw
  have hk2 := List.mem_range.mp hk
  rw [(am_nf_ok ci h).2.1] at hk2
  exact am_has_in (am_all (am_all am_u_chk h) hk2)
/-- fields' types: 0 int, 1 a reference, 2 boolean -/
def am_fty (ci k : Nat) : FieldType := ((parseFieldDescriptor ((am_cr ci).2.1 k).2.2.1).getD .int)
def am_ftok (ci k : Nat) : Bool := decide (parseFieldDescriptor ((am_cr ci).2.1 k).2.2.1 = some (am_fty ci k)) && ((am_fkd ci k % 4 == 1) == (am_fty ci k).isReference) && ((am_fkd ci k % 4 == 0) == decide (am_fty ci k = .int)) && ((am_fkd ci k % 4 == 2) == decide (am_fty ci k = .boolean)) && (decide (4 ≤ am_fkd ci k) == ((am_cr ci).2.1 k).2.2.2) && decide (((am_cr ci).2.1 k).1 = am_cn ci)
theorem am_ft_chk : (List.range 10).all (fun ci => (List.range (am_nf ci)).all (fun k => am_ftok ci k)) = true := by decide +kernel
theorem am_nm_chk : (List.range 10).all (fun ci => (List.range (am_nf ci)).all (fun a => (List.range (am_nf ci)).all (fun b => decide (a = b) || !decide (((am_cr ci).2.1 a).2.1 = ((am_cr ci).2.1 b).2.1)))) = true := by decide +kernel
theorem am_fl_chk : (List.range 19).all (fun oc => (am_flT.getD oc []).all (fun q => decide (q.2.1 < 10) && decide (q.2.2.1 < am_nf q.2.1) && am_has q.2.2.2 (.fieldLink (am_cn oc) q.1 ((am_cr q.2.1).2.1 q.2.2.1).1 ((am_cr q.2.1).2.1 q.2.2.1).2.1 ((am_cr q.2.1).2.1 q.2.2.1).2.2.1))) = true := by decide +kernel
theorem am_out {α : Type} {T : List (List α)} {oc : Nat} {q : α} (hl : T.length = 19) (h : q ∈ T.getD oc []) : oc < 19 := by
  rcases Nat.lt_or_ge oc 19 with g | g
  · exact g
  · rw [List.getD_eq_getElem?_getD, List.getElem?_eq_none (by omega)] at h
    cases h
theorem am_fl_ok {oc idx : Nat} {q : Nat × Nat × Nat × Nat} (h : am_fl oc idx = some q) : q.1 = idx ∧ q.2.1 < 10 ∧ q.2.2.1 < am_nf q.2.1 ∧ Cond.fieldLink (am_cn oc) idx ((am_cr q.2.1).2.1 q.2.2.1).1 ((am_cr q.2.1).2.1 q.2.2.1).2.1 ((am_cr q.2.1).2.1 q.2.2.1).2.2.1 ∈ am_ws := by
  unfold am_fl at h
  have h1 := List.mem_of_find?_eq_some h
  have h2 : q.1 = idx := by simpa using List.find?_some h
  have h3 := List.all_eq_true.mp (am_all am_fl_chk (am_out (by decide) h1)) q h1
  simp only [Bool.and_eq_true, decide_eq_true_eq] at h3
  exact ⟨h2, h3.1.1, h3.1.2, by rw [← h2]; exact am_has_in h3.2⟩
/-- class links: of the classes that are made, of their arrays, of the exceptions -/
def am_cname (ci : Nat) : String := if ci = 25 then "[[I" else am_cn ci
theorem am_cl_chk : (List.range 19).all (fun oc => (am_clT.getD oc []).all (fun q => am_has q.2.2 (.classLink (am_cn oc) q.1 (am_cname q.2.1)) && (decide (q.2.1 < 13) || decide (q.2.1 = 25)))) = true := by decide +kernel
theorem am_cl_ok {oc idx : Nat} {q : Nat × Nat × Nat} (h : am_cs oc idx = some q) : q.1 = idx ∧ Cond.classLink (am_cn oc) idx (am_cname q.2.1) ∈ am_ws ∧ (q.2.1 < 13 ∨ q.2.1 = 25) := by
  unfold am_cs at h
  have h1 := List.mem_of_find?_eq_some h
  have h2 : q.1 = idx := by simpa using List.find?_some h
  have h3 := List.all_eq_true.mp (am_all am_cl_chk (am_out (by decide) h1)) q h1
  simp only [Bool.and_eq_true, Bool.or_eq_true, decide_eq_true_eq] at h3
  exact ⟨h2, by rw [← h2]; exact am_has_in h3.1, h3.2⟩
def am_iT : List (Nat × Nat) := [(114, 91), (330, 98), (309, 97), (122, 92), (128, 93), (174, 94), (350, 99), (286, 96), (273, 95), (1332, 100)]
theorem am_in_chk : (List.range 10).all (fun ci => am_has (am_iT.getD ci (0, 0)).1 (.instantiable (am_cn ci) (am_inst.getD ci 0)) && am_has (am_iT.getD ci (0, 0)).2 (.initialized (am_cn ci)) && decide (am_inst.getD ci 0 = am_nf ci)) = true := by decide +kernel
theorem am_in_ok {ci : Nat} (h : ci < 10) : Cond.instantiable (am_cn ci) (am_nf ci) ∈ am_ws ∧ Cond.initialized (am_cn ci) ∈ am_ws ∧ am_inst.getD ci 0 = am_nf ci := by
  have h1 := am_all am_in_chk h
  simp only [Bool.and_eq_true, decide_eq_true_eq] at h1
  exact ⟨by rw [← h1.2]; exact am_has_in h1.1.1, am_has_in h1.1.2, h1.2⟩
theorem am_sr_chk : (List.range 19).all (fun oc => (am_srT.getD oc []).all (fun q => decide (10 ≤ q.2.1 ∧ q.2.1 < 40 ∧ q.2.1 % 2 = 0) && decide (am_strs.getD ((q.2.1 - 10) / 2) ("", 0, "") = (am_cn oc, q.1, (am_strs.getD ((q.2.1 - 10) / 2) ("", 0, "")).2.2)))) = true := by decide +kernel
theorem am_sr_ok {oc idx : Nat} {q : Nat × Nat × Nat} (h : am_sr oc idx = some q) : ∃ j, j < 15 ∧ q.2.1 = 10 + 2 * j ∧ (am_strs.getD j ("", 0, "")).1 = am_cn oc ∧ (am_strs.getD j ("", 0, "")).2.1 = idx := by
  unfold am_sr at h
  have h1 := List.mem_of_find?_eq_some h
  have h2 : q.1 = idx := by simpa using List.find?_some h
  have h3 := List.all_eq_true.mp (am_all am_sr_chk (am_out (by decide) h1)) q h1
  simp only [Bool.and_eq_true, decide_eq_true_eq] at h3
  obtain ⟨⟨a1, a2, a3⟩, b⟩ := h3
  refine ⟨(q.2.1 - 10) / 2, by omega, by omega, ?_, ?_⟩
  · rw [b]
  · rw [b, h2]
theorem am_w_strv : (Jvm.Cond.fieldLink "java/lang/String" (9 : Nat) "java/lang/String" "value" "[B") ∈ am_ws := am_has_in (k := 1941) (by decide +kernel)
theorem am_w_strc : (Jvm.Cond.fieldLink "java/lang/String" (15 : Nat) "java/lang/String" "coder" "B") ∈ am_ws := am_has_in (k := 1942) (by decide +kernel)
theorem am_w_gs1 : (Jvm.Cond.fieldLink "java/lang/String" (38 : Nat) "java/lang/String" "COMPACT_STRINGS" "Z") ∈ am_ws := am_has_in (k := 576) (by decide +kernel)
theorem am_w_gs2 : (Jvm.Cond.fieldLink "java/lang/String" (1053 : Nat) "jdk/internal/util/Preconditions" "SIOOBE_FORMATTER" "Ljava/util/function/BiFunction;") ∈ am_ws := am_has_in (k := 592) (by decide +kernel)
theorem am_w_const : (Jvm.Cond.constant "RodYard$Text" (33 : Nat) (1000000000 : Int32)) ∈ am_ws := am_has_in (k := 1190) (by decide +kernel)
theorem am_w_aint : (Jvm.Cond.arrayClass Jvm.ClassFile.FieldType.int) ∈ am_ws := am_has_in (k := 172) (by decide +kernel)
theorem am_w_abyte : (Jvm.Cond.arrayClass Jvm.ClassFile.FieldType.byte) ∈ am_ws := am_has_in (k := 171) (by decide +kernel)
theorem am_w_aboolean : (Jvm.Cond.arrayClass Jvm.ClassFile.FieldType.boolean) ∈ am_ws := am_has_in (k := 364) (by decide +kernel)
theorem am_w_along : (Jvm.Cond.arrayClass Jvm.ClassFile.FieldType.long) ∈ am_ws := am_has_in (k := 1938) (by decide +kernel)
theorem am_w_adouble : (Jvm.Cond.arrayClass Jvm.ClassFile.FieldType.double) ∈ am_ws := am_has_in (k := 1939) (by decide +kernel)
theorem am_w_cn : (Jvm.Cond.native ({ cls := "java/lang/System", name := "arraycopy", desc := "(Ljava/lang/Object;ILjava/lang/Object;II)V" } : Jvm.MethodName)) ∈ am_ws := am_has_in (k := 708) (by decide +kernel)
theorem am_w_cs : (Jvm.Cond.static ({ cls := "java/lang/System", name := "arraycopy", desc := "(Ljava/lang/Object;ILjava/lang/Object;II)V" } : Jvm.MethodName)) ∈ am_ws := am_has_in (k := 707) (by decide +kernel)
theorem am_w_ci : (Jvm.Cond.initialized "java/lang/System") ∈ am_ws := am_has_in (k := 111) (by decide +kernel)
