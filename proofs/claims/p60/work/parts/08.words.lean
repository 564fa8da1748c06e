/-! THE SMALL MACHINE: its tables are the claim's own words -/
def am_uT : List (List Nat) := [[329, 331, 333, 335, 337, 339, 341, 343, 345, 347, 349, 351, 353, 355, 357, 359], [290, 292, 294], [268, 270, 272, 274], [198, 200, 202, 204, 206, 208, 210, 212, 214], [108, 110, 112, 114, 116, 118], [164, 166, 168, 170, 172, 174, 176, 178, 180, 182], [307, 309], [248, 250, 252, 254], [229, 231], [487, 489], [329, 331, 333, 335, 337, 339, 341, 343, 345, 347, 349, 351, 353, 355, 357, 359], [329, 331, 333, 335, 337, 339, 341, 343, 345, 347, 349, 351, 353, 355, 357, 359], [329, 331, 333, 335, 337, 339, 341, 343, 345, 347, 349, 351, 353, 355, 357, 359], [329, 331, 333, 335, 337, 339, 341, 343, 345, 347, 349, 351, 353, 355, 357, 359], [329, 331, 333, 335, 337, 339, 341, 343, 345, 347, 349, 351, 353, 355, 357, 359], [788, 790, 792, 794, 796, 798, 800, 802, 804], [743, 745, 747, 749, 751, 753], [844, 846, 848, 850, 852, 854, 856, 858, 860, 862, 864, 866, 868, 870, 872, 874], [654, 656, 658, 660], [1639, 1641, 1643, 1645]]
abbrev am_cr (ci : Nat) : vw_C := am_cl.getD ci ("?", am_F0, 0)
def am_has (k : Nat) (w : Jvm.Cond) : Bool := (match am_tb2[k]? with
  | some v => decide (v = w)
  | none => false) && goodWord w
theorem am_has_in {k : Nat} {w : Jvm.Cond} (h : am_has k w = true) : w ∈ am_ws := by
  unfold am_has at h
  rw [Bool.and_eq_true] at h
  obtain ⟨h1, h2⟩ := h
  split at h1
  · next v e =>
    have := of_decide_eq_true h1
    subst this
    exact List.mem_filter.mpr ⟨List.mem_of_getElem? e, h2⟩
  · cases h1
def am_hasN (k : Nat) (w : Jvm.Cond) : Bool := match lw_tbl[k]? with
  | some v => decide (v = w)
  | none => false
theorem am_hasN_in {k : Nat} {w : Jvm.Cond} (h : am_hasN k w = true) : w ∈ lw_tbl := by
  unfold am_hasN at h
  split at h
  · next v e =>
    have := of_decide_eq_true h
    subst this
    exact List.mem_of_getElem? e
  · cases h
theorem am_all {n : Nat} {f : Nat → Bool} (h : (List.range n).all f = true) {i : Nat} (hi : i < n) : f i = true := List.all_eq_true.mp h i (List.mem_range.mpr hi)
theorem am_nf_ok : ∀ ci, ci < 20 → (am_cl[ci]? = some (am_cr ci) ∧ (am_cr ci).2.2 = am_nf ci) := by
  intro ci h
  rcases (show ci = 0 ∨ ci = 1 ∨ ci = 2 ∨ ci = 3 ∨ ci = 4 ∨ ci = 5 ∨ ci = 6 ∨ ci = 7 ∨ ci = 8 ∨ ci = 9 ∨ ci = 10 ∨ ci = 11 ∨ ci = 12 ∨ ci = 13 ∨ ci = 14 ∨ ci = 15 ∨ ci = 16 ∨ ci = 17 ∨ ci = 18 ∨ ci = 19 by omega) with rfl | rfl | rfl | rfl | rfl | rfl | rfl | rfl | rfl | rfl | rfl | rfl | rfl | rfl | rfl | rfl | rfl | rfl | rfl | rfl <;> exact ⟨rfl, by decide +kernel⟩
theorem am_cn_ok : ∀ ci, am_ob ci → (am_cr ci).1 = am_cn ci := by
  intro ci h
  rcases (show ci = 0 ∨ ci = 1 ∨ ci = 2 ∨ ci = 3 ∨ ci = 4 ∨ ci = 5 ∨ ci = 6 ∨ ci = 7 ∨ ci = 8 ∨ ci = 9 ∨ ci = 15 ∨ ci = 16 ∨ ci = 17 ∨ ci = 18 ∨ ci = 19 by omega) with rfl | rfl | rfl | rfl | rfl | rfl | rfl | rfl | rfl | rfl | rfl | rfl | rfl | rfl | rfl <;> decide +kernel
theorem am_u_chk : (List.range 20).all (fun ci => (List.range (am_nf ci)).all (fun k => am_has ((am_uT.getD ci []).getD k 0) (u_lay (am_cr ci).1 (am_cr ci).2.1 k))) = true := by decide +kernel
theorem am_uok {ci : Nat} (h : ci < 20) : ∀ w ∈ u_ws (am_cr ci).1 (am_cr ci).2.1 (am_cr ci).2.2, w ∈ am_ws := by
  intro w hw
  obtain ⟨k, hk, rfl⟩ := List.mem_map.mp hw
  have hk2 := List.mem_range.mp hk
  rw [(am_nf_ok ci h).2] at hk2
  exact am_has_in (am_all (am_all am_u_chk h) hk2)
/-- fields' types: 0 int, 1 a reference, 2 boolean, 3 byte -/
def am_fty (ci k : Nat) : FieldType := ((parseFieldDescriptor ((am_cr ci).2.1 k).2.2.1).getD .int)
def am_ftok (ci k : Nat) : Bool := decide (parseFieldDescriptor ((am_cr ci).2.1 k).2.2.1 = some (am_fty ci k)) && ((am_fkd ci k % 4 == 1) == (am_fty ci k).isReference) && ((am_fkd ci k % 4 == 0) == decide (am_fty ci k = .int)) && ((am_fkd ci k % 4 == 2) == decide (am_fty ci k = .boolean)) && ((am_fkd ci k % 4 == 3) == decide (am_fty ci k = .byte)) && (decide (4 ≤ am_fkd ci k) == ((am_cr ci).2.1 k).2.2.2) && (decide (am_fkd ci k < 4) || decide (((am_cr ci).2.1 k).1 = (am_cr ci).1))
theorem am_ft_chk : (List.range 20).all (fun ci => (List.range (am_nf ci)).all (fun k => am_ftok ci k)) = true := by decide +kernel
theorem am_nm_chk : (List.range 20).all (fun ci => (List.range (am_nf ci)).all (fun a => (List.range (am_nf ci)).all (fun b => decide (a = b) || !decide (((am_cr ci).2.1 a).2.1 = ((am_cr ci).2.1 b).2.1)))) = true := by decide +kernel
theorem am_fl_chk : (List.range 29).all (fun oc => (am_flT.getD oc []).all (fun q => decide (am_ob q.2.1) && decide (q.2.2.1 < am_nf q.2.1) && (am_has q.2.2.2.1 (.fieldLink (am_cn oc) q.1 ((am_cr q.2.1).2.1 q.2.2.1).1 ((am_cr q.2.1).2.1 q.2.2.1).2.1 ((am_cr q.2.1).2.1 q.2.2.1).2.2.1) || am_hasN q.2.2.2.1 (.fieldLinkNest (am_cn oc) q.1 ((am_cr q.2.1).2.1 q.2.2.1).1 ((am_cr q.2.1).2.1 q.2.2.1).2.1 ((am_cr q.2.1).2.1 q.2.2.1).2.2.1 "RodYardLaw")))) = true := by decide +kernel
theorem am_out {α : Type} {T : List (List α)} {oc : Nat} {q : α} (hl : T.length = 29) (h : q ∈ T.getD oc []) : oc < 29 := by
  rcases Nat.lt_or_ge oc 29 with g | g
  · exact g
  · rw [List.getD_eq_getElem?_getD, List.getElem?_eq_none (by omega)] at h
    cases h
theorem am_fl_ok {oc idx : Nat} {q : Nat × Nat × Nat × Nat} (h : am_fl oc idx = some q) : q.1 = idx ∧ am_ob q.2.1 ∧ q.2.2.1 < am_nf q.2.1 ∧ (Cond.fieldLink (am_cn oc) idx ((am_cr q.2.1).2.1 q.2.2.1).1 ((am_cr q.2.1).2.1 q.2.2.1).2.1 ((am_cr q.2.1).2.1 q.2.2.1).2.2.1 ∈ am_ws ∨ Cond.fieldLinkNest (am_cn oc) idx ((am_cr q.2.1).2.1 q.2.2.1).1 ((am_cr q.2.1).2.1 q.2.2.1).2.1 ((am_cr q.2.1).2.1 q.2.2.1).2.2.1 "RodYardLaw" ∈ lw_tbl) := by
  unfold am_fl at h
  obtain ⟨r, hr, rfl⟩ := Option.map_eq_some_iff.mp h
  unfold am_flN at hr
  have h1 := List.mem_of_find?_eq_some hr
  have h2 : r.1 = idx := by simpa using List.find?_some hr
  have h3 := List.all_eq_true.mp (am_all am_fl_chk (am_out (by decide) h1)) r h1
  simp only [Bool.and_eq_true, Bool.or_eq_true, decide_eq_true_eq] at h3
  refine ⟨h2, h3.1.1, h3.1.2, ?_⟩
  rcases h3.2 with h4 | h4
  · exact Or.inl (by rw [← h2]; exact am_has_in h4)
  · exact Or.inr (by rw [← h2]; exact am_hasN_in h4)
/-- class links: of the classes that are made, of their arrays, of the exceptions -/
def am_cname (ci : Nat) : String := if ci = 25 then "[[I" else if ci = 20 then "[I" else if ci = 21 then "[B" else am_cn ci
theorem am_cl_chk : (List.range 29).all (fun oc => (am_clT.getD oc []).all (fun q => am_has q.2.2 (.classLink (am_cn oc) q.1 (am_cname q.2.1)) && (decide (q.2.1 < 13 ∨ 15 ≤ q.2.1 ∧ q.2.1 < 22 ∨ q.2.1 = 25)))) = true := by decide +kernel
theorem am_cl_ok {oc idx : Nat} {q : Nat × Nat × Nat} (h : am_cs oc idx = some q) : q.1 = idx ∧ Cond.classLink (am_cn oc) idx (am_cname q.2.1) ∈ am_ws ∧ (q.2.1 < 13 ∨ 15 ≤ q.2.1 ∧ q.2.1 < 22 ∨ q.2.1 = 25) := by
  unfold am_cs at h
  have h1 := List.mem_of_find?_eq_some h
  have h2 : q.1 = idx := by simpa using List.find?_some h
  have h3 := List.all_eq_true.mp (am_all am_cl_chk (am_out (by decide) h1)) q h1
  simp only [Bool.and_eq_true, decide_eq_true_eq] at h3
  exact ⟨h2, by rw [← h2]; exact am_has_in h3.1, h3.2⟩
def am_iT : List (Nat × Nat) := [(67, 49), (278, 56), (258, 55), (75, 50), (81, 51), (124, 52), (298, 57), (235, 54), (222, 53), (480, 34), (67, 49), (67, 49), (67, 49), (67, 49), (67, 49), (761, 48), (723, 47), (498, 35), (504, 37), (1595, 38)]
theorem am_in_chk : (List.range 20).all (fun ci => am_has (am_iT.getD ci (0, 0)).1 (.instantiable (am_cr ci).1 (am_inst.getD ci 0)) && am_has (am_iT.getD ci (0, 0)).2 (.initialized (am_cr ci).1) && decide (am_inst.getD ci 0 = am_nf ci)) = true := by decide +kernel
theorem am_in_okr {ci : Nat} (h : ci < 20) : Cond.instantiable (am_cr ci).1 (am_nf ci) ∈ am_ws ∧ Cond.initialized (am_cr ci).1 ∈ am_ws ∧ am_inst.getD ci 0 = am_nf ci := by
  have h1 := am_all am_in_chk h
  simp only [Bool.and_eq_true, decide_eq_true_eq] at h1
  exact ⟨by rw [← h1.2]; exact am_has_in h1.1.1, am_has_in h1.1.2, h1.2⟩
theorem am_in_ok {ci : Nat} (h : am_ob ci) : Cond.instantiable (am_cn ci) (am_nf ci) ∈ am_ws ∧ Cond.initialized (am_cn ci) ∈ am_ws ∧ am_inst.getD ci 0 = am_nf ci := by
  rw [← am_cn_ok ci h]
  exact am_in_okr (by omega)
theorem am_sr_chk : (List.range 29).all (fun oc => (am_srT.getD oc []).all (fun q => decide (10 ≤ q.2.1 ∧ q.2.1 < 42 ∧ q.2.1 % 2 = 0) && decide (am_strs.getD ((q.2.1 - 10) / 2) ("", 0, "") = (am_cn oc, q.1, (am_strs.getD ((q.2.1 - 10) / 2) ("", 0, "")).2.2)))) = true := by decide +kernel
theorem am_sr_ok {oc idx : Nat} {q : Nat × Nat × Nat} (h : am_sr oc idx = some q) : ∃ j, j < 16 ∧ q.2.1 = 10 + 2 * j ∧ (am_strs.getD j ("", 0, "")).1 = am_cn oc ∧ (am_strs.getD j ("", 0, "")).2.1 = idx := by
  unfold am_sr at h
  have h1 := List.mem_of_find?_eq_some h
  have h2 : q.1 = idx := by simpa using List.find?_some h
  have h3 := List.all_eq_true.mp (am_all am_sr_chk (am_out (by decide) h1)) q h1
  simp only [Bool.and_eq_true, decide_eq_true_eq] at h3
  obtain ⟨⟨a1, a2, a3⟩, b⟩ := h3
  refine ⟨(q.2.1 - 10) / 2, by omega, by omega, ?_, ?_⟩
  · rw [b]
  · rw [b, h2]
theorem am_ct_chk : (List.range 29).all (fun oc => (am_ctT.getD oc []).all (fun q => am_has q.2.2 (.constant (am_cn oc) q.1 (Int32.ofInt q.2.1)))) = true := by decide +kernel
theorem am_ct_ok {oc idx : Nat} {q : Nat × Int × Nat} (h : am_ct oc idx = some q) : q.1 = idx ∧ Cond.constant (am_cn oc) idx (Int32.ofInt q.2.1) ∈ am_ws := by
  unfold am_ct at h
  have h1 := List.mem_of_find?_eq_some h
  have h2 : q.1 = idx := by simpa using List.find?_some h
  have h3 := List.all_eq_true.mp (am_all am_ct_chk (am_out (by decide) h1)) q h1
  exact ⟨h2, by rw [← h2]; exact am_has_in h3⟩
theorem am_w_strv : (Jvm.Cond.fieldLink "java/lang/String" (9 : Nat) "java/lang/String" "value" "[B") ∈ am_ws := am_has_in (k := 1637) (by decide +kernel)
theorem am_w_strc : (Jvm.Cond.fieldLink "java/lang/String" (15 : Nat) "java/lang/String" "coder" "B") ∈ am_ws := am_has_in (k := 1638) (by decide +kernel)
theorem am_w_gs1 : (Jvm.Cond.fieldLink "java/lang/String" (38 : Nat) "java/lang/String" "COMPACT_STRINGS" "Z") ∈ am_ws := am_has_in (k := 521) (by decide +kernel)
theorem am_w_gs2 : (Jvm.Cond.fieldLink "java/lang/String" (1053 : Nat) "jdk/internal/util/Preconditions" "SIOOBE_FORMATTER" "Ljava/util/function/BiFunction;") ∈ am_ws := am_has_in (k := 602) (by decide +kernel)
theorem am_w_gs3 : (Jvm.Cond.fieldLink "java/lang/AbstractStringBuilder" (18 : Nat) "java/lang/String" "COMPACT_STRINGS" "Z") ∈ am_ws := am_has_in (k := 589) (by decide +kernel)
theorem am_w_gs4 : (Jvm.Cond.fieldLink "java/lang/Integer" (83 : Nat) "java/lang/Integer" "DigitOnes" "[B") ∈ am_ws := am_has_in (k := 681) (by decide +kernel)
theorem am_w_gs5 : (Jvm.Cond.fieldLink "java/lang/Integer" (87 : Nat) "java/lang/Integer" "DigitTens" "[B") ∈ am_ws := am_has_in (k := 683) (by decide +kernel)
theorem am_w_cl99 : (Jvm.Cond.constantLong "RodYardLaw" (133 : Nat) (-99 : Int64)) ∈ am_ws := am_has_in (k := 1409) (by decide +kernel)
theorem am_w_aint : (Jvm.Cond.arrayClass Jvm.ClassFile.FieldType.int) ∈ am_ws := am_has_in (k := 122) (by decide +kernel)
theorem am_w_abyte : (Jvm.Cond.arrayClass Jvm.ClassFile.FieldType.byte) ∈ am_ws := am_has_in (k := 121) (by decide +kernel)
theorem am_w_aboolean : (Jvm.Cond.arrayClass Jvm.ClassFile.FieldType.boolean) ∈ am_ws := am_has_in (k := 312) (by decide +kernel)
theorem am_w_cn : (Jvm.Cond.native ({ cls := "java/lang/System", name := "arraycopy", desc := "(Ljava/lang/Object;ILjava/lang/Object;II)V" } : Jvm.MethodName)) ∈ am_ws := am_has_in (k := 583) (by decide +kernel)
theorem am_w_cs : (Jvm.Cond.static ({ cls := "java/lang/System", name := "arraycopy", desc := "(Ljava/lang/Object;ILjava/lang/Object;II)V" } : Jvm.MethodName)) ∈ am_ws := am_has_in (k := 582) (by decide +kernel)
theorem am_w_ci : (Jvm.Cond.initialized "java/lang/System") ∈ am_ws := am_has_in (k := 43) (by decide +kernel)
theorem am_w_oln : (Jvm.Cond.native ({ cls := "java/lang/Object", name := "clone", desc := "()Ljava/lang/Object;" } : Jvm.MethodName)) ∈ am_ws := am_has_in (k := 573) (by decide +kernel)
theorem am_w_oli : (Jvm.Cond.instanceMethod ({ cls := "java/lang/Object", name := "clone", desc := "()Ljava/lang/Object;" } : Jvm.MethodName)) ∈ am_ws := am_has_in (k := 574) (by decide +kernel)
theorem am_w_ols : (Jvm.Cond.sameMethod "[B" "java/lang/Object" "clone" "()Ljava/lang/Object;") ∈ am_ws := am_has_in (k := 572) (by decide +kernel)
theorem am_nst_chk : (List.range 29).all (fun oc => (am_flT.getD oc []).all (fun q => am_has q.2.2.2.1 (.fieldLink (am_cn oc) q.1 ((am_cr q.2.1).2.1 q.2.2.1).1 ((am_cr q.2.1).2.1 q.2.2.1).2.1 ((am_cr q.2.1).2.1 q.2.2.1).2.2.1) || decide (am_cn oc ≠ am_cn q.2.1))) = true := by decide +kernel
theorem am_fl_nst {oc idx : Nat} {q : Nat × Nat × Nat × Nat} (h : am_fl oc idx = some q) (h9 : Cond.fieldLink (am_cn oc) idx ((am_cr q.2.1).2.1 q.2.2.1).1 ((am_cr q.2.1).2.1 q.2.2.1).2.1 ((am_cr q.2.1).2.1 q.2.2.1).2.2.1 ∈ am_ws ∨ Cond.fieldLinkNest (am_cn oc) idx ((am_cr q.2.1).2.1 q.2.2.1).1 ((am_cr q.2.1).2.1 q.2.2.1).2.1 ((am_cr q.2.1).2.1 q.2.2.1).2.2.1 "RodYardLaw" ∈ lw_tbl) : Cond.fieldLink (am_cn oc) idx ((am_cr q.2.1).2.1 q.2.2.1).1 ((am_cr q.2.1).2.1 q.2.2.1).2.1 ((am_cr q.2.1).2.1 q.2.2.1).2.2.1 ∈ am_ws ∨ (Cond.fieldLinkNest (am_cn oc) idx ((am_cr q.2.1).2.1 q.2.2.1).1 ((am_cr q.2.1).2.1 q.2.2.1).2.1 ((am_cr q.2.1).2.1 q.2.2.1).2.2.1 "RodYardLaw" ∈ lw_tbl ∧ am_cn oc ≠ am_cn q.2.1) := by
  rcases h9 with h9 | h9
  · exact Or.inl h9
  unfold am_fl at h
  obtain ⟨r, hr, rfl⟩ := Option.map_eq_some_iff.mp h
  unfold am_flN at hr
  have h1 := List.mem_of_find?_eq_some hr
  have h2 : r.1 = idx := by simpa using List.find?_some hr
  have h3 := List.all_eq_true.mp (am_all am_nst_chk (am_out (by decide) h1)) r h1
  simp only [Bool.or_eq_true, decide_eq_true_eq] at h3
  rcases h3 with h4 | h4
  · exact Or.inl (by rw [← h2]; exact am_has_in h4)
  · exact Or.inr ⟨h9, h4⟩
