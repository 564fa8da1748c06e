/-! THE SMALL MACHINE: its links are the claim's own -/
def am_mok (y : Nat) : Bool := am_ph.contains y || (goodWord (am_cw y) && plainName (am_name y).cls && decide (am_own y = (am_name y).cls) && decide (am_nL y ≤ 40) && decide ((am_name y).cls ≠ "java/lang/invoke/MethodHandle" ∧ (am_name y).cls ≠ "java/lang/invoke/VarHandle") && decide ((parseMethodDescriptor (am_name y).desc).map (fun d => d.parameters.length) = some (am_na y)))
theorem am_m_chk1 : (List.range 40).all (fun k => am_mok (1 + k)) = true := by decide +kernel
theorem am_m_chk41 : (List.range 40).all (fun k => am_mok (41 + k)) = true := by decide +kernel
theorem am_m_chk81 : (List.range 40).all (fun k => am_mok (81 + k)) = true := by decide +kernel
theorem am_m_chk121 : (List.range 40).all (fun k => am_mok (121 + k)) = true := by decide +kernel
theorem am_m_chk161 : (List.range 40).all (fun k => am_mok (161 + k)) = true := by decide +kernel
theorem am_m_chk201 : (List.range 20).all (fun k => am_mok (201 + k)) = true := by decide +kernel
theorem am_m_ok : ∀ y, 1 ≤ y → y < 221 → am_mok y = true := by
  intro y h1 h2
  rcases Nat.lt_or_ge y 41 with h | h
  · have := am_all am_m_chk1 (i := y - 1) (by omega)
    rw [show 1 + (y - 1) = y by omega] at this
    exact this
  rcases Nat.lt_or_ge y 81 with h | h
  · have := am_all am_m_chk41 (i := y - 41) (by omega)
    rw [show 41 + (y - 41) = y by omega] at this
    exact this
  rcases Nat.lt_or_ge y 121 with h | h
  · have := am_all am_m_chk81 (i := y - 81) (by omega)
    rw [show 81 + (y - 81) = y by omega] at this
    exact this
  rcases Nat.lt_or_ge y 161 with h | h
  · have := am_all am_m_chk121 (i := y - 121) (by omega)
    rw [show 121 + (y - 121) = y by omega] at this
    exact this
  rcases Nat.lt_or_ge y 201 with h | h
  · have := am_all am_m_chk161 (i := y - 161) (by omega)
    rw [show 161 + (y - 161) = y by omega] at this
    exact this
  rcases Nat.lt_or_ge y 221 with h | h
  · have := am_all am_m_chk201 (i := y - 201) (by omega)
    rw [show 201 + (y - 201) = y by omega] at this
    exact this
  omega
def am_hasA (w : Jvm.Cond) : Bool := decide (w ∈ lw_tbl) && goodWord w
theorem am_hasA_in {w : Jvm.Cond} (h : am_hasA w = true) : w ∈ am_ws := by
  unfold am_hasA at h
  rw [Bool.and_eq_true, decide_eq_true_eq] at h
  exact List.mem_filter.mpr ⟨List.mem_append_left _ h.1, h.2⟩
def am_mlok (oc : Nat) (q : Nat × Nat × Nat × Nat × Nat × Nat × Nat) : Bool :=
  match q.2.1 with
  | 0 => am_has q.2.2.2.1 (.methodLink (am_cn oc) q.1 (am_name q.2.2.1)) && am_has q.2.2.2.2.1 (.instanceMethod (am_name q.2.2.1)) && am_has q.2.2.2.2.2.1 (.initialized (am_name q.2.2.1).cls) && am_has q.2.2.2.2.2.2 (.selects (am_name q.2.2.1).cls (am_name q.2.2.1) (am_name q.2.2.1)) && decide (am_vd q.2.2.1 ∧ (am_ob (am_oc q.2.2.1) ∨ am_oc q.2.2.1 = 14) ∧ am_hh q.2.2.1 = [])
  | 1 => am_has q.2.2.2.1 (.methodLink (am_cn oc) q.1 (am_name q.2.2.1)) && am_has q.2.2.2.2.1 (.static (am_name q.2.2.1)) && am_has q.2.2.2.2.2.1 (.initialized (am_name q.2.2.1).cls) && decide (am_vd q.2.2.1)
  | 2 => am_has q.2.2.2.1 (.methodLink (am_cn oc) q.1 (am_name q.2.2.1)) && am_has q.2.2.2.2.1 (.instanceMethod (am_name q.2.2.1)) && am_has q.2.2.2.2.2.1 (.initialized (am_name q.2.2.1).cls) && decide (am_vd q.2.2.1 ∧ (am_name q.2.2.1).name = "<init>" ∧ am_hh q.2.2.1 = [] ∧ am_rt q.2.2.1 = none)
  | 3 => am_hasN q.2.2.2.1 (.methodLinkNest (am_cn oc) q.1 (am_name q.2.2.1) "RodYard") && am_has q.2.2.2.2.1 (.instanceMethod (am_name q.2.2.1)) && am_has q.2.2.2.2.2.1 (.initialized (am_name q.2.2.1).cls) && decide (am_vd q.2.2.1 ∧ (am_name q.2.2.1).name = "<init>" ∧ am_hh q.2.2.1 = [] ∧ am_rt q.2.2.1 = none)
  | 4 => am_has q.2.2.2.1 (.methodLink (am_cn oc) q.1 arraycopyName)
  | 5 => am_has q.2.2.2.1 (.methodLink (am_cn oc) q.1 Lib.objectInit)
  | 6 => am_has q.2.2.2.1 (.methodLink (am_cn oc) q.1 Lib.Math.max.name)
  | 7 => am_has q.2.2.2.1 (.methodLink (am_cn oc) q.1 Lib.Math.min.name)
  | 8 => am_has q.2.2.2.1 (.methodLink (am_cn oc) q.1 (am_name q.2.2.2.2.2.1)) && am_has q.2.2.2.2.1 (.instanceMethod (am_name q.2.2.1)) && am_has q.2.2.2.2.2.2 (.selects "java/lang/StringBuilder" (am_name q.2.2.2.2.2.1) (am_name q.2.2.1)) && am_hasA (.sameMethod (am_name q.2.2.2.2.2.1).cls (am_name q.2.2.2.2.2.1).cls (am_name q.2.2.2.2.2.1).name (am_name q.2.2.2.2.2.1).desc) && am_hasA (.instanceMethod (am_name q.2.2.2.2.2.1)) && am_hasA (.initialized (am_name q.2.2.1).cls) && decide (am_vd q.2.2.1 ∧ am_vd q.2.2.2.2.2.1 ∧ am_hh q.2.2.1 = [] ∧ am_hh q.2.2.2.2.2.1 = [] ∧ am_na q.2.2.2.2.2.1 = am_na q.2.2.1)
  | 10 => am_has q.2.2.2.1 (.methodLink (am_cn oc) q.1 (am_name q.2.2.1)) && am_has q.2.2.2.2.1 (.instanceMethod (am_name q.2.2.1)) && am_has q.2.2.2.2.2.1 (.initialized (am_name q.2.2.1).cls) && am_has q.2.2.2.2.2.2 (.sameMethod (am_name q.2.2.1).cls (am_name q.2.2.1).cls (am_name q.2.2.1).name (am_name q.2.2.1).desc) && am_hasA (.superclass (am_cn oc) (am_name q.2.2.1).cls) && decide (am_vd q.2.2.1 ∧ am_hh q.2.2.1 = [] ∧ (am_name q.2.2.1).name ≠ "<init>" ∧ oc = 18)
  | 11 => am_has q.2.2.2.1 (.methodLink (am_cn oc) q.1 ⟨"[B", "clone", "()Ljava/lang/Object;"⟩)
  | _ => false
theorem am_ml_len : am_mlT.length = 29 := by decide +kernel
theorem am_ml_chk0_0 : (((am_mlT.getD 0 []).drop 0).take 60).all (am_mlok 0) = true := by decide +kernel
theorem am_ml_chk1_0 : (((am_mlT.getD 1 []).drop 0).take 60).all (am_mlok 1) = true := by decide +kernel
theorem am_ml_chk2_0 : (((am_mlT.getD 2 []).drop 0).take 60).all (am_mlok 2) = true := by decide +kernel
theorem am_ml_chk3_0 : (((am_mlT.getD 3 []).drop 0).take 60).all (am_mlok 3) = true := by decide +kernel
theorem am_ml_chk4_0 : (((am_mlT.getD 4 []).drop 0).take 60).all (am_mlok 4) = true := by decide +kernel
theorem am_ml_chk5_0 : (((am_mlT.getD 5 []).drop 0).take 60).all (am_mlok 5) = true := by decide +kernel
theorem am_ml_chk6_0 : (((am_mlT.getD 6 []).drop 0).take 60).all (am_mlok 6) = true := by decide +kernel
theorem am_ml_chk7_0 : (((am_mlT.getD 7 []).drop 0).take 60).all (am_mlok 7) = true := by decide +kernel
theorem am_ml_chk8_0 : (((am_mlT.getD 8 []).drop 0).take 60).all (am_mlok 8) = true := by decide +kernel
theorem am_ml_chk9_0 : (((am_mlT.getD 9 []).drop 0).take 60).all (am_mlok 9) = true := by decide +kernel
theorem am_ml_chk13_0 : (((am_mlT.getD 13 []).drop 0).take 60).all (am_mlok 13) = true := by decide +kernel
theorem am_ml_chk13_60 : (((am_mlT.getD 13 []).drop 60).take 60).all (am_mlok 13) = true := by decide +kernel
theorem am_ml_chk14_0 : (((am_mlT.getD 14 []).drop 0).take 60).all (am_mlok 14) = true := by decide +kernel
theorem am_ml_chk15_0 : (((am_mlT.getD 15 []).drop 0).take 60).all (am_mlok 15) = true := by decide +kernel
theorem am_ml_chk16_0 : (((am_mlT.getD 16 []).drop 0).take 60).all (am_mlok 16) = true := by decide +kernel
theorem am_ml_chk17_0 : (((am_mlT.getD 17 []).drop 0).take 60).all (am_mlok 17) = true := by decide +kernel
theorem am_ml_chk18_0 : (((am_mlT.getD 18 []).drop 0).take 60).all (am_mlok 18) = true := by decide +kernel
theorem am_ml_chk20_0 : (((am_mlT.getD 20 []).drop 0).take 60).all (am_mlok 20) = true := by decide +kernel
theorem am_ml_chk24_0 : (((am_mlT.getD 24 []).drop 0).take 60).all (am_mlok 24) = true := by decide +kernel
theorem am_ml_chk25_0 : (((am_mlT.getD 25 []).drop 0).take 60).all (am_mlok 25) = true := by decide +kernel
theorem am_ml_chk26_0 : (((am_mlT.getD 26 []).drop 0).take 60).all (am_mlok 26) = true := by decide +kernel
theorem am_tk {α : Type} {f : α → Bool} {l : List α} (n : Nat) (h1 : (l.take n).all f = true) (h2 : (l.drop n).all f = true) : l.all f = true := by
  rw [← List.take_append_drop n l, List.all_append, h1, h2]
  rfl
theorem am_ml_d0_60 : ((am_mlT.getD 0 []).drop 60).all (am_mlok 0) = true := by decide +kernel
theorem am_ml_d0_0 : ((am_mlT.getD 0 []).drop 0).all (am_mlok 0) = true := am_tk 60 am_ml_chk0_0 (by rw [List.drop_drop]; exact am_ml_d0_60)
theorem am_ml_k0 : (am_mlT.getD 0 []).all (am_mlok 0) = true := am_ml_d0_0
theorem am_ml_d1_60 : ((am_mlT.getD 1 []).drop 60).all (am_mlok 1) = true := by decide +kernel
theorem am_ml_d1_0 : ((am_mlT.getD 1 []).drop 0).all (am_mlok 1) = true := am_tk 60 am_ml_chk1_0 (by rw [List.drop_drop]; exact am_ml_d1_60)
theorem am_ml_k1 : (am_mlT.getD 1 []).all (am_mlok 1) = true := am_ml_d1_0
theorem am_ml_d2_60 : ((am_mlT.getD 2 []).drop 60).all (am_mlok 2) = true := by decide +kernel
theorem am_ml_d2_0 : ((am_mlT.getD 2 []).drop 0).all (am_mlok 2) = true := am_tk 60 am_ml_chk2_0 (by rw [List.drop_drop]; exact am_ml_d2_60)
theorem am_ml_k2 : (am_mlT.getD 2 []).all (am_mlok 2) = true := am_ml_d2_0
theorem am_ml_d3_60 : ((am_mlT.getD 3 []).drop 60).all (am_mlok 3) = true := by decide +kernel
theorem am_ml_d3_0 : ((am_mlT.getD 3 []).drop 0).all (am_mlok 3) = true := am_tk 60 am_ml_chk3_0 (by rw [List.drop_drop]; exact am_ml_d3_60)
theorem am_ml_k3 : (am_mlT.getD 3 []).all (am_mlok 3) = true := am_ml_d3_0
theorem am_ml_d4_60 : ((am_mlT.getD 4 []).drop 60).all (am_mlok 4) = true := by decide +kernel
theorem am_ml_d4_0 : ((am_mlT.getD 4 []).drop 0).all (am_mlok 4) = true := am_tk 60 am_ml_chk4_0 (by rw [List.drop_drop]; exact am_ml_d4_60)
theorem am_ml_k4 : (am_mlT.getD 4 []).all (am_mlok 4) = true := am_ml_d4_0
theorem am_ml_d5_60 : ((am_mlT.getD 5 []).drop 60).all (am_mlok 5) = true := by decide +kernel
theorem am_ml_d5_0 : ((am_mlT.getD 5 []).drop 0).all (am_mlok 5) = true := am_tk 60 am_ml_chk5_0 (by rw [List.drop_drop]; exact am_ml_d5_60)
theorem am_ml_k5 : (am_mlT.getD 5 []).all (am_mlok 5) = true := am_ml_d5_0
theorem am_ml_d6_60 : ((am_mlT.getD 6 []).drop 60).all (am_mlok 6) = true := by decide +kernel
theorem am_ml_d6_0 : ((am_mlT.getD 6 []).drop 0).all (am_mlok 6) = true := am_tk 60 am_ml_chk6_0 (by rw [List.drop_drop]; exact am_ml_d6_60)
theorem am_ml_k6 : (am_mlT.getD 6 []).all (am_mlok 6) = true := am_ml_d6_0
theorem am_ml_d7_60 : ((am_mlT.getD 7 []).drop 60).all (am_mlok 7) = true := by decide +kernel
theorem am_ml_d7_0 : ((am_mlT.getD 7 []).drop 0).all (am_mlok 7) = true := am_tk 60 am_ml_chk7_0 (by rw [List.drop_drop]; exact am_ml_d7_60)
theorem am_ml_k7 : (am_mlT.getD 7 []).all (am_mlok 7) = true := am_ml_d7_0
theorem am_ml_d8_60 : ((am_mlT.getD 8 []).drop 60).all (am_mlok 8) = true := by decide +kernel
theorem am_ml_d8_0 : ((am_mlT.getD 8 []).drop 0).all (am_mlok 8) = true := am_tk 60 am_ml_chk8_0 (by rw [List.drop_drop]; exact am_ml_d8_60)
theorem am_ml_k8 : (am_mlT.getD 8 []).all (am_mlok 8) = true := am_ml_d8_0
theorem am_ml_d9_60 : ((am_mlT.getD 9 []).drop 60).all (am_mlok 9) = true := by decide +kernel
theorem am_ml_d9_0 : ((am_mlT.getD 9 []).drop 0).all (am_mlok 9) = true := am_tk 60 am_ml_chk9_0 (by rw [List.drop_drop]; exact am_ml_d9_60)
theorem am_ml_k9 : (am_mlT.getD 9 []).all (am_mlok 9) = true := am_ml_d9_0
theorem am_ml_d13_120 : ((am_mlT.getD 13 []).drop 120).all (am_mlok 13) = true := by decide +kernel
theorem am_ml_d13_60 : ((am_mlT.getD 13 []).drop 60).all (am_mlok 13) = true := am_tk 60 am_ml_chk13_60 (by rw [List.drop_drop]; exact am_ml_d13_120)
theorem am_ml_d13_0 : ((am_mlT.getD 13 []).drop 0).all (am_mlok 13) = true := am_tk 60 am_ml_chk13_0 (by rw [List.drop_drop]; exact am_ml_d13_60)
theorem am_ml_k13 : (am_mlT.getD 13 []).all (am_mlok 13) = true := am_ml_d13_0
theorem am_ml_d14_60 : ((am_mlT.getD 14 []).drop 60).all (am_mlok 14) = true := by decide +kernel
theorem am_ml_d14_0 : ((am_mlT.getD 14 []).drop 0).all (am_mlok 14) = true := am_tk 60 am_ml_chk14_0 (by rw [List.drop_drop]; exact am_ml_d14_60)
theorem am_ml_k14 : (am_mlT.getD 14 []).all (am_mlok 14) = true := am_ml_d14_0
theorem am_ml_d15_60 : ((am_mlT.getD 15 []).drop 60).all (am_mlok 15) = true := by decide +kernel
theorem am_ml_d15_0 : ((am_mlT.getD 15 []).drop 0).all (am_mlok 15) = true := am_tk 60 am_ml_chk15_0 (by rw [List.drop_drop]; exact am_ml_d15_60)
theorem am_ml_k15 : (am_mlT.getD 15 []).all (am_mlok 15) = true := am_ml_d15_0
theorem am_ml_d16_60 : ((am_mlT.getD 16 []).drop 60).all (am_mlok 16) = true := by decide +kernel
theorem am_ml_d16_0 : ((am_mlT.getD 16 []).drop 0).all (am_mlok 16) = true := am_tk 60 am_ml_chk16_0 (by rw [List.drop_drop]; exact am_ml_d16_60)
theorem am_ml_k16 : (am_mlT.getD 16 []).all (am_mlok 16) = true := am_ml_d16_0
theorem am_ml_d17_60 : ((am_mlT.getD 17 []).drop 60).all (am_mlok 17) = true := by decide +kernel
theorem am_ml_d17_0 : ((am_mlT.getD 17 []).drop 0).all (am_mlok 17) = true := am_tk 60 am_ml_chk17_0 (by rw [List.drop_drop]; exact am_ml_d17_60)
theorem am_ml_k17 : (am_mlT.getD 17 []).all (am_mlok 17) = true := am_ml_d17_0
theorem am_ml_d18_60 : ((am_mlT.getD 18 []).drop 60).all (am_mlok 18) = true := by decide +kernel
theorem am_ml_d18_0 : ((am_mlT.getD 18 []).drop 0).all (am_mlok 18) = true := am_tk 60 am_ml_chk18_0 (by rw [List.drop_drop]; exact am_ml_d18_60)
theorem am_ml_k18 : (am_mlT.getD 18 []).all (am_mlok 18) = true := am_ml_d18_0
theorem am_ml_d20_60 : ((am_mlT.getD 20 []).drop 60).all (am_mlok 20) = true := by decide +kernel
theorem am_ml_d20_0 : ((am_mlT.getD 20 []).drop 0).all (am_mlok 20) = true := am_tk 60 am_ml_chk20_0 (by rw [List.drop_drop]; exact am_ml_d20_60)
theorem am_ml_k20 : (am_mlT.getD 20 []).all (am_mlok 20) = true := am_ml_d20_0
theorem am_ml_d24_60 : ((am_mlT.getD 24 []).drop 60).all (am_mlok 24) = true := by decide +kernel
theorem am_ml_d24_0 : ((am_mlT.getD 24 []).drop 0).all (am_mlok 24) = true := am_tk 60 am_ml_chk24_0 (by rw [List.drop_drop]; exact am_ml_d24_60)
theorem am_ml_k24 : (am_mlT.getD 24 []).all (am_mlok 24) = true := am_ml_d24_0
theorem am_ml_d25_60 : ((am_mlT.getD 25 []).drop 60).all (am_mlok 25) = true := by decide +kernel
theorem am_ml_d25_0 : ((am_mlT.getD 25 []).drop 0).all (am_mlok 25) = true := am_tk 60 am_ml_chk25_0 (by rw [List.drop_drop]; exact am_ml_d25_60)
theorem am_ml_k25 : (am_mlT.getD 25 []).all (am_mlok 25) = true := am_ml_d25_0
theorem am_ml_d26_60 : ((am_mlT.getD 26 []).drop 60).all (am_mlok 26) = true := by decide +kernel
theorem am_ml_d26_0 : ((am_mlT.getD 26 []).drop 0).all (am_mlok 26) = true := am_tk 60 am_ml_chk26_0 (by rw [List.drop_drop]; exact am_ml_d26_60)
theorem am_ml_k26 : (am_mlT.getD 26 []).all (am_mlok 26) = true := am_ml_d26_0
theorem am_ml_all : ∀ oc, oc < 29 → (am_mlT.getD oc []).all (am_mlok oc) = true := by
  intro oc h
  rcases (show oc = 0 ∨ oc = 1 ∨ oc = 2 ∨ oc = 3 ∨ oc = 4 ∨ oc = 5 ∨ oc = 6 ∨ oc = 7 ∨ oc = 8 ∨ oc = 9 ∨ oc = 10 ∨ oc = 11 ∨ oc = 12 ∨ oc = 13 ∨ oc = 14 ∨ oc = 15 ∨ oc = 16 ∨ oc = 17 ∨ oc = 18 ∨ oc = 19 ∨ oc = 20 ∨ oc = 21 ∨ oc = 22 ∨ oc = 23 ∨ oc = 24 ∨ oc = 25 ∨ oc = 26 ∨ oc = 27 ∨ oc = 28 by omega) with rfl | rfl | rfl | rfl | rfl | rfl | rfl | rfl | rfl | rfl | rfl | rfl | rfl | rfl | rfl | rfl | rfl | rfl | rfl | rfl | rfl | rfl | rfl | rfl | rfl | rfl | rfl | rfl | rfl
  · exact am_ml_k0
  · exact am_ml_k1
  · exact am_ml_k2
  · exact am_ml_k3
  · exact am_ml_k4
  · exact am_ml_k5
  · exact am_ml_k6
  · exact am_ml_k7
  · exact am_ml_k8
  · exact am_ml_k9
  · decide +kernel
  · decide +kernel
  · decide +kernel
  · exact am_ml_k13
  · exact am_ml_k14
  · exact am_ml_k15
  · exact am_ml_k16
  · exact am_ml_k17
  · exact am_ml_k18
  · decide +kernel
  · exact am_ml_k20
  · decide +kernel
  · decide +kernel
  · decide +kernel
  · exact am_ml_k24
  · exact am_ml_k25
  · exact am_ml_k26
  · decide +kernel
  · decide +kernel
theorem am_ml_ok {oc idx : Nat} {q : Nat × Nat × Nat × Nat × Nat × Nat × Nat} (h : am_ml oc idx = some q) : q.1 = idx ∧ am_mlok oc q = true := by
  unfold am_ml at h
  have h1 := List.mem_of_find?_eq_some h
  have h2 : q.1 = idx := by simpa using List.find?_some h
  exact ⟨h2, List.all_eq_true.mp (am_ml_all oc (am_out (by decide) h1)) q h1⟩
theorem am_w_stmax : Cond.static Lib.Math.max.name ∈ am_ws := am_has_in (k := 562) (by decide +kernel)
theorem am_w_comax : Cond.code Lib.Math.max.name Lib.Math.max.code 2 (some .int) ∈ am_ws := am_has_in (k := 563) (by decide +kernel)
theorem am_w_stmin : Cond.static Lib.Math.min.name ∈ am_ws := am_has_in (k := 579) (by decide +kernel)
theorem am_w_comin : Cond.code Lib.Math.min.name Lib.Math.min.code 2 (some .int) ∈ am_ws := am_has_in (k := 580) (by decide +kernel)
theorem am_w_mi : (Jvm.Cond.initialized "java/lang/Math") ∈ am_ws := am_has_in (k := 41) (by decide +kernel)
theorem am_w_oi : Cond.instanceMethod Lib.objectInit ∈ am_ws := am_has_in (k := 72) (by decide +kernel)
theorem am_w_oc : Cond.code Lib.objectInit ⟨#[0xb1]⟩ 1 none ∈ am_ws := am_has_in (k := 73) (by decide +kernel)
theorem am_w_bsel : Cond.selects "[B" ⟨"[B", "clone", "()Ljava/lang/Object;"⟩ ⟨"java/lang/Object", "clone", "()Ljava/lang/Object;"⟩ ∈ am_ws := am_has_in (k := 575) (by decide +kernel)
theorem am_w_bcl : Cond.castable "[B" "java/lang/Cloneable" ∈ lw_tbl := am_hasN_in (k := 576) (by decide +kernel)
abbrev am_at10 : List Jvm.Cond := vx_atS "RodYard" 101 "java/lang/IndexOutOfBoundsException" ["java/lang/RuntimeException", "java/lang/Exception"]
theorem am_at10_in : ∀ w ∈ am_at10, w ∈ lw_tbl := by decide +kernel
theorem am_at10_g : am_at10.all (fun w => goodWord w || (match w with | .declares _ => true | .castable _ _ => true | _ => false)) = true := by decide +kernel
theorem am_at10_o : am_at10.all vx_ot = true := by decide +kernel
theorem am_w_i10 : (Jvm.Cond.initialized "java/lang/IndexOutOfBoundsException") ∈ am_ws := am_has_in (k := 63) (by decide +kernel)
theorem am_w_k10 : Cond.castable "java/lang/IndexOutOfBoundsException" "java/lang/IndexOutOfBoundsException" ∈ lw_tbl := am_hasN_in (k := 457) (by decide +kernel)
abbrev am_at11 : List Jvm.Cond := vx_atS "RodYard" 125 "java/lang/IllegalArgumentException" ["java/lang/RuntimeException", "java/lang/Exception"]
theorem am_at11_in : ∀ w ∈ am_at11, w ∈ lw_tbl := by decide +kernel
theorem am_at11_g : am_at11.all (fun w => goodWord w || (match w with | .declares _ => true | .castable _ _ => true | _ => false)) = true := by decide +kernel
theorem am_at11_o : am_at11.all vx_ot = true := by decide +kernel
theorem am_w_i11 : (Jvm.Cond.initialized "java/lang/IllegalArgumentException") ∈ am_ws := am_has_in (k := 62) (by decide +kernel)
theorem am_w_k11 : Cond.castable "java/lang/IllegalArgumentException" "java/lang/IllegalArgumentException" ∈ lw_tbl := am_hasN_in (k := 1029) (by decide +kernel)
abbrev am_at12 : List Jvm.Cond := vx_atS "RodYard" 348 "java/lang/IllegalStateException" ["java/lang/RuntimeException", "java/lang/Exception"]
theorem am_at12_in : ∀ w ∈ am_at12, w ∈ lw_tbl := by decide +kernel
theorem am_at12_g : am_at12.all (fun w => goodWord w || (match w with | .declares _ => true | .castable _ _ => true | _ => false)) = true := by decide +kernel
theorem am_at12_o : am_at12.all vx_ot = true := by decide +kernel
theorem am_w_i12 : (Jvm.Cond.initialized "java/lang/IllegalStateException") ∈ am_ws := am_has_in (k := 61) (by decide +kernel)
theorem am_w_k12 : Cond.castable "java/lang/IllegalStateException" "java/lang/IllegalStateException" ∈ lw_tbl := am_hasN_in (k := 384) (by decide +kernel)
