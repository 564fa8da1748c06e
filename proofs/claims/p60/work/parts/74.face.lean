/-! THE FACE: what is refused (by program, wip/p60/gen) -/
theorem o152 : am_oc 152 = 0 := by decide +kernel
theorem th152_10 : am_thk 152 10 12 = true := by decide +kernel
theorem o143 : am_oc 143 = 0 := by decide +kernel
theorem hh143 : am_hh 143 = [] := rfl
theorem th143_36 : am_thk 143 36 11 = true := by decide +kernel
theorem o144 : am_oc 144 = 0 := by decide +kernel
theorem th108_15 : am_thk 108 15 10 = true := by decide +kernel
theorem hh144 : am_hh 144 = [] := rfl
theorem th144_27 : am_thk 144 27 11 = true := by decide +kernel
theorem o145 : am_oc 145 = 0 := by decide +kernel
theorem hh145 : am_hh 145 = [] := rfl
theorem o147 : am_oc 147 = 0 := by decide +kernel
theorem hh147 : am_hh 147 = [] := rfl
theorem th147_21 : am_thk 147 21 11 = true := by decide +kernel
theorem o148 : am_oc 148 = 0 := by decide +kernel
theorem th148_16 : am_thk 148 16 11 = true := by decide +kernel
theorem hh148 : am_hh 148 = [] := rfl
theorem o149 : am_oc 149 = 0 := by decide +kernel
theorem hh149 : am_hh 149 = [] := rfl
theorem th149_25 : am_thk 149 25 11 = true := by decide +kernel
theorem o150 : am_oc 150 = 0 := by decide +kernel
theorem th150_23 : am_thk 150 23 11 = true := by decide +kernel
theorem o151 : am_oc 151 = 0 := by decide +kernel
theorem hh151 : am_hh 151 = [] := rfl
theorem y111_z {g : AG} {M : AM} {Y P A V T K H X : Nat} (hSY : ShYard g Y P A V T K H X) (hYd : M Y 6 = 0) :
    Ok 1 111 0 [aR Y] [] g M (fun o g1 M1 => o = .inr 12 ∧ g1 = am_alloc g 30 0 6 ∧ M1 = M) := by
  refine ok_aloadn (pc' := 1) i111_0 rfl rfl <| ok_cc i111_1 rfl (cl_v o111 m0_132 na99 rfl rfl (bt rfl) (bt rfl) rfl (by rw [ShYard_k0 hSY, o99])) ln99 (pd99 (aR Y)) <| ok_aloadn (pc' := 1) i99_0 rfl rfl <| ok_getfi (v := 0) (pc' := 4) i99_1 o99 gi0_268 (ShYard_k0 hSY) hYd rfl <| ok_kz0 (pc1 := 18) (pc2 := 7) i99_4 (by decide) rfl rfl <| ok_throw th99_7 (bt rfl) <| kt_x hh111 <| ?_
  exact ⟨rfl, rfl, rfl⟩
theorem y98_z {g : AG} {M : AM} {Y P A V T K H X : Nat} (hSY : ShYard g Y P A V T K H X) (hYd : M Y 6 = 0) :
    Ok 1 98 0 [aR Y, aI 0] [] g M (fun o g1 M1 => o = .inr 12 ∧ g1 = am_alloc g 30 0 6 ∧ M1 = M) := by
  refine ok_aloadn (pc' := 1) i98_0 rfl rfl <| ok_cc i98_1 rfl (cl_v o98 m0_132 na99 rfl rfl (bt rfl) (bt rfl) rfl (by rw [ShYard_k0 hSY, o99])) ln99 (pd99 (aR Y)) <| ok_aloadn (pc' := 1) i99_0 rfl rfl <| ok_getfi (v := 0) (pc' := 4) i99_1 o99 gi0_268 (ShYard_k0 hSY) hYd rfl <| ok_kz0 (pc1 := 18) (pc2 := 7) i99_4 (by decide) rfl rfl <| ok_throw th99_7 (bt rfl) <| kt_x hh98 <| ?_
  exact ⟨rfl, rfl, rfl⟩
theorem y152_z {g : AG} {M : AM} {Y P A V T K H X : Nat} (hSY : ShYard g Y P A V T K H X) (hSH : ShHist g H) (hYd : M Y 6 = 0) (hH2 : M H 2 = 0) :
    Ok 2 152 0 [aR Y] [] g M (fun o g1 M1 => o = .inr 12 ∧ g1 = am_alloc g 30 0 6 ∧ M1 = M) := by
  refine ok_aloadn (pc' := 1) i152_0 rfl rfl <| ok_getfr (r := H) (pc' := 4) i152_1 o152 gr0_71 (ShYard_k0 hSY) (ShYard_r12 hSY) rfl <| ok_getfi (v := 0) (pc' := 7) i152_4 o152 gi0_343 (ShHist_k0 hSH) hH2 rfl <| ok_kz0 (pc1 := 21) (pc2 := 10) i152_7 (by decide) rfl rfl <| ok_throw th152_10 (bt rfl) <| ?_
  exact ⟨rfl, rfl, rfl⟩
theorem y94_z {g : AG} {M : AM} {Y P A V T K H X : Nat} (hSY : ShYard g Y P A V T K H X) (hYd : M Y 6 = 0) :
    Ok 0 94 0 [aR Y] [] g M (Rt (some (aI 0)) g (fun M9 => M9 = M)) := by
  refine ok_aloadn (pc' := 1) i94_0 rfl rfl <| ok_getfi (v := 0) (pc' := 4) i94_1 o94 gi0_268 (ShYard_k0 hSY) hYd rfl <| ok_kz1 (pc1 := 17) (pc2 := 7) i94_4 (by decide) rfl rfl <| ok_iconst (pc' := 18) i94_17 rfl <| ok_ireti i94_18 rt94 <| ?_
  exact ⟨rfl, rfl, rfl⟩
theorem y95_z {g : AG} {M : AM} {Y P A V T K H X : Nat} (hSY : ShYard g Y P A V T K H X) (hSH : ShHist g H) (hYd : M Y 6 = 0) :
    Ok 0 95 0 [aR Y] [] g M (Rt (some (aI (M H 2))) g (fun M9 => M9 = M)) := by
  refine ok_aloadn (pc' := 1) i95_0 rfl rfl <| ok_getfr (r := H) (pc' := 4) i95_1 o95 gr0_71 (ShYard_k0 hSY) (ShYard_r12 hSY) rfl <| ok_getfi (v := (M H 2)) (pc' := 7) i95_4 o95 gi0_343 (ShHist_k0 hSH) rfl rfl <| ok_ireti i95_7 rt95 <| ?_
  exact ⟨rfl, rfl, rfl⟩
theorem y143_x0 {g : AG} {M : AM} {Y P A V T K H X : Nat} {q s : Int → Int} {b : Int} {x1 x2 : Int} (hSY : ShYard g Y P A V T K H X) (hSV : ShWorks g V P A) (hSP : ShPlan g P) (hSA : ShState g A) (hRP : RepP M P q) (hRA : RepS M A s) (hQ : ValQ q) (hV : Val b q s) (h0 : s 3 ≤ x1 ∧ x1 ≤ 100) (hYd : M Y 6 = 1) :
    Ok 2 143 0 [aR Y, aI x1, aI x2] [] g M (fun o g1 M1 => o = .inr 10 ∧ g1 = am_alloc g 30 0 6 ∧ M1 = M) := by
  have yq0 : 0 ≤ q 0 ∧ q 0 ≤ 4 := Q_0 hQ
  have yq1 : 0 ≤ q 1 ∧ q 1 ≤ 6 := Q_1 hQ
  have ys3 : 0 ≤ s 3 ∧ s 3 ≤ 80 := V_3 hV
  have ys4 : 0 ≤ s 4 ∧ s 4 ≤ 16 := V_4 hV
  refine ok_aloadn (pc' := 1) i143_0 rfl rfl <| ok_cc i143_1 rfl (cl_v o143 m0_132 na99 rfl rfl (bt rfl) (bt rfl) rfl (by rw [ShYard_k0 hSY, o99])) ln99 (pd99 (aR Y)) <| ok_aloadn (pc' := 1) i99_0 rfl rfl <| ok_getfi (v := 1) (pc' := 4) i99_1 o99 gi0_268 (ShYard_k0 hSY) hYd rfl <| ok_kz1 (pc1 := 18) (pc2 := 7) i99_4 (by decide) rfl rfl <| ok_vret i99_18 rt99 <| kt_0 (pc' := 4) rfl <| ok_aloadn (pc' := 5) i143_4 rfl rfl <| ?_
  refine ok_iloadn (pc' := 6) i143_5 rfl rfl <| ok_cc i143_6 rfl (cl_v o143 m0_169 na103 rfl rfl (bt rfl) (bt rfl) rfl (by rw [ShYard_k0 hSY, o103])) ln103 (pd103 (aR Y) (aI x1)) <| ok_iloadn (pc' := 1) i103_0 rfl rfl <| ?_
  refine ok_zlt (pc1 := 15) (pc2 := 4) i103_1 (by omega) rfl rfl (fun h9 => by exfalso; omega) (fun h1 => ?_)
  refine ok_iloadn (pc' := 5) i103_4 rfl rfl <| ok_aloadn (pc' := 6) i103_5 rfl rfl <| ok_getfr (r := A) (pc' := 9) i103_6 o103 gr0_39 (ShYard_k0 hSY) (ShYard_r8 hSY) rfl <| ok_getfi (v := (s 3)) (pc' := 12) i103_9 o103 gi0_129 (ShState_k0 hSA) (RepS_f2 hRA) rfl <| ?_
  refine ok_clt (pc1 := 26) (pc2 := 15) i103_12 (by omega) rfl rfl (fun h9 => by exfalso; omega) (fun h2 => ?_)
  refine ok_throw th103_15 (bt rfl) <| kt_x hh143 <| ?_
  exact ⟨rfl, rfl, rfl⟩
theorem y143_x1 {g : AG} {M : AM} {Y P A V T K H X : Nat} {q s : Int → Int} {b : Int} {x1 x2 : Int} (hSY : ShYard g Y P A V T K H X) (hSV : ShWorks g V P A) (hSP : ShPlan g P) (hSA : ShState g A) (hRP : RepP M P q) (hRA : RepS M A s) (hQ : ValQ q) (hV : Val b q s) (h0 : 0 ≤ x1 ∧ x1 < s 3) (h1 : 1 ≤ x2 ∧ x2 ≤ 200) (h2 : s (94 + x1) < x2) (hYd : M Y 6 = 1) :
    Ok 2 143 0 [aR Y, aI x1, aI x2] [] g M (fun o g1 M1 => o = .inr 11 ∧ g1 = am_alloc g 30 0 6 ∧ M1 = M) := by
  have yq0 : 0 ≤ q 0 ∧ q 0 ≤ 4 := Q_0 hQ
  have yq1 : 0 ≤ q 1 ∧ q 1 ≤ 6 := Q_1 hQ
  have ys3 : 0 ≤ s 3 ∧ s 3 ≤ 80 := V_3 hV
  have ys4 : 0 ≤ s 4 ∧ s 4 ≤ 16 := V_4 hV
  refine ok_aloadn (pc' := 1) i143_0 rfl rfl <| ok_cc i143_1 rfl (cl_v o143 m0_132 na99 rfl rfl (bt rfl) (bt rfl) rfl (by rw [ShYard_k0 hSY, o99])) ln99 (pd99 (aR Y)) <| ok_aloadn (pc' := 1) i99_0 rfl rfl <| ok_getfi (v := 1) (pc' := 4) i99_1 o99 gi0_268 (ShYard_k0 hSY) hYd rfl <| ok_kz1 (pc1 := 18) (pc2 := 7) i99_4 (by decide) rfl rfl <| ok_vret i99_18 rt99 <| kt_0 (pc' := 4) rfl <| ok_aloadn (pc' := 5) i143_4 rfl rfl <| ?_
  refine ok_iloadn (pc' := 6) i143_5 rfl rfl <| ok_cc i143_6 rfl (cl_v o143 m0_169 na103 rfl rfl (bt rfl) (bt rfl) rfl (by rw [ShYard_k0 hSY, o103])) ln103 (pd103 (aR Y) (aI x1)) <| ok_iloadn (pc' := 1) i103_0 rfl rfl <| ?_
  refine ok_zlt (pc1 := 15) (pc2 := 4) i103_1 (by omega) rfl rfl (fun h9 => by exfalso; omega) (fun h1 => ?_)
  refine ok_iloadn (pc' := 5) i103_4 rfl rfl <| ok_aloadn (pc' := 6) i103_5 rfl rfl <| ok_getfr (r := A) (pc' := 9) i103_6 o103 gr0_39 (ShYard_k0 hSY) (ShYard_r8 hSY) rfl <| ok_getfi (v := (s 3)) (pc' := 12) i103_9 o103 gi0_129 (ShState_k0 hSA) (RepS_f2 hRA) rfl <| ?_
  refine ok_clt (pc1 := 26) (pc2 := 15) i103_12 (by omega) rfl rfl (fun h2 => ?_) (fun h9 => by exfalso; omega)
  refine ok_vret i103_26 rt103 <| kt_0 (pc' := 9) rfl <| ok_iloadn (pc' := 10) i143_9 rfl rfl <| ok_cc i143_10 rfl (cl_s o143 m0_203 na113 rfl rfl (bt rfl) (bt rfl) rfl) ln113 (pd113 (aI x2)) <| ok_iloadn (pc' := 1) i113_0 rfl rfl <| ok_iconst (pc' := 2) i113_1 rfl <| ok_sipush (v := 200) (pc' := 5) i113_2 rfl rfl <| ok_cc i113_5 rfl (cl_s o113 m0_172 na104 rfl rfl (bt rfl) (bt rfl) rfl) ln104 (pd104 (aI x2) (aI 1) (aI 200)) <| ?_
  refine ok_iloadn (pc' := 1) i104_0 rfl rfl <| ok_iloadn (pc' := 2) i104_1 rfl rfl <| ?_
  refine ok_clt (pc1 := 10) (pc2 := 5) i104_2 (by omega) rfl rfl (fun h9 => by exfalso; omega) (fun h3 => ?_)
  refine ok_iloadn (pc' := 6) i104_5 rfl rfl <| ok_iloadn (pc' := 7) i104_6 rfl rfl <| ?_
  refine ok_cle (pc1 := 21) (pc2 := 10) i104_7 (by omega) rfl rfl (fun h4 => ?_) (fun h9 => by exfalso; omega)
  refine ok_vret i104_21 rt104 <| kt_0 (pc' := 8) rfl <| ok_vret i113_8 rt113 <| kt_0 (pc' := 13) rfl <| ok_aloadn (pc' := 14) i143_13 rfl rfl <| ok_getfr (r := V) (pc' := 17) i143_14 o143 gr0_48 (ShYard_k0 hSY) (ShYard_r9 hSY) rfl <| ok_aloadn (pc' := 18) i143_17 rfl rfl <| ok_getfr (r := A) (pc' := 21) i143_18 o143 gr0_39 (ShYard_k0 hSY) (ShYard_r8 hSY) rfl <| ?_
  refine ok_getfr (r := (A + 2)) (pc' := 24) i143_21 o143 gr0_176 (ShState_k0 hSA) (ShState_r3 hSA) rfl <| ok_iconst (pc' := 25) i143_24 rfl <| ok_aaload (r := (A + 4)) (pc' := 26) i143_25 (ShState_k2 hSA) (by decide) (ShState_l2 hSA) (by decide) (ShState_e2_1 hSA) rfl <| ok_iloadn (pc' := 27) i143_26 rfl rfl <| ?_
  have z1 : 0 ≤ s (94 + x1) ∧ s (94 + x1) ≤ 200 := V_d1 hV (i := x1) (by omega) (by omega)
  refine ok_iaload (v := (s (94 + x1))) (pc' := 28) i143_27 (ShState_k4 hSA) (by decide) (ShState_l4 hSA) (by omega) (RepS_4 hRA (by omega) (by omega)) rfl <| ok_iloadn (pc' := 29) i143_28 rfl rfl <| ok_cc i143_29 rfl (cl_v o143 m0_213 na33 rfl rfl (bt rfl) (bt rfl) rfl (by rw [ShWorks_k0 hSV, o33])) ln33 (pd33 (aR V) (aI (s (94 + x1))) (aI x2)) <| ok_iloadn (pc' := 1) i33_0 rfl rfl <| ok_iloadn (pc' := 2) i33_1 rfl rfl <| ?_
  refine ok_cle (pc1 := 9) (pc2 := 5) i33_2 (by omega) rfl rfl (fun h9 => by exfalso; omega) (fun h5 => ?_)
  refine ok_iconst (pc' := 6) i33_5 rfl <| ok_goto (pc' := 26) i33_6 rfl <| ok_ireti i33_26 rt33 <| kt_v (pc' := 32) rfl <| ok_iconst (pc' := 33) i143_32 rfl <| ok_kc0 (pc1 := 47) (pc2 := 36) i143_33 (by decide) rfl rfl <| ok_throw th143_36 (bt rfl) <| ?_
  exact ⟨rfl, rfl, rfl⟩
theorem y144_x0 {g : AG} {M : AM} {Y P A V T K H X : Nat} {q s : Int → Int} {b : Int} {x1 x2 : Int} (hSY : ShYard g Y P A V T K H X) (hSV : ShWorks g V P A) (hSP : ShPlan g P) (hSA : ShState g A) (hRP : RepP M P q) (hRA : RepS M A s) (hQ : ValQ q) (hV : Val b q s) (h0 : q 1 ≤ x1 ∧ x1 ≤ 100) (hYd : M Y 6 = 1) :
    Ok 3 144 0 [aR Y, aI x1, aI x2] [] g M (fun o g1 M1 => o = .inr 10 ∧ g1 = am_alloc g 30 0 6 ∧ M1 = M) := by
  have yq0 : 0 ≤ q 0 ∧ q 0 ≤ 4 := Q_0 hQ
  have yq1 : 0 ≤ q 1 ∧ q 1 ≤ 6 := Q_1 hQ
  have ys3 : 0 ≤ s 3 ∧ s 3 ≤ 80 := V_3 hV
  have ys4 : 0 ≤ s 4 ∧ s 4 ≤ 16 := V_4 hV
  refine ok_aloadn (pc' := 1) i144_0 rfl rfl <| ok_cc i144_1 rfl (cl_v o144 m0_132 na99 rfl rfl (bt rfl) (bt rfl) rfl (by rw [ShYard_k0 hSY, o99])) ln99 (pd99 (aR Y)) <| ok_aloadn (pc' := 1) i99_0 rfl rfl <| ok_getfi (v := 1) (pc' := 4) i99_1 o99 gi0_268 (ShYard_k0 hSY) hYd rfl <| ok_kz1 (pc1 := 18) (pc2 := 7) i99_4 (by decide) rfl rfl <| ok_vret i99_18 rt99 <| kt_0 (pc' := 4) rfl <| ok_aloadn (pc' := 5) i144_4 rfl rfl <| ?_
  refine ok_iloadn (pc' := 6) i144_5 rfl rfl <| ok_cc i144_6 rfl (cl_v o144 m0_186 na108 rfl rfl (bt rfl) (bt rfl) rfl (by rw [ShYard_k0 hSY, o108])) ln108 (pd108 (aR Y) (aI x1)) <| ok_iloadn (pc' := 1) i108_0 rfl rfl <| ?_
  refine ok_zlt (pc1 := 15) (pc2 := 4) i108_1 (by omega) rfl rfl (fun h9 => by exfalso; omega) (fun h1 => ?_)
  refine ok_iloadn (pc' := 5) i108_4 rfl rfl <| ok_aloadn (pc' := 6) i108_5 rfl rfl <| ok_getfr (r := P) (pc' := 9) i108_6 o108 gr0_32 (ShYard_k0 hSY) (ShYard_r7 hSY) rfl <| ok_getfi (v := (q 1)) (pc' := 12) i108_9 o108 gi0_141 (ShPlan_k0 hSP) (RepP_f3 hRP) rfl <| ?_
  refine ok_clt (pc1 := 26) (pc2 := 15) i108_12 (by omega) rfl rfl (fun h9 => by exfalso; omega) (fun h2 => ?_)
  refine ok_throw th108_15 (bt rfl) <| kt_x hh144 <| ?_
  exact ⟨rfl, rfl, rfl⟩
theorem y144_x1 {g : AG} {M : AM} {Y P A V T K H X : Nat} {q s : Int → Int} {b : Int} {x1 x2 : Int} (hSY : ShYard g Y P A V T K H X) (hSV : ShWorks g V P A) (hSP : ShPlan g P) (hSA : ShState g A) (hRP : RepP M P q) (hRA : RepS M A s) (hQ : ValQ q) (hV : Val b q s) (h0 : 0 ≤ x1 ∧ x1 < q 1) (h1 : 0 ≤ x2 ∧ x2 < s 3) (h2 : (r37 q s x1 x2) = (-1)) (hYd : M Y 6 = 1) :
    Ok 3 144 0 [aR Y, aI x1, aI x2] [] g M (fun o g1 M1 => o = .inr 11 ∧ g1 = am_alloc g 30 0 6 ∧ M1 = M) := by
  have yq0 : 0 ≤ q 0 ∧ q 0 ≤ 4 := Q_0 hQ
  have yq1 : 0 ≤ q 1 ∧ q 1 ≤ 6 := Q_1 hQ
  have ys3 : 0 ≤ s 3 ∧ s 3 ≤ 80 := V_3 hV
  have ys4 : 0 ≤ s 4 ∧ s 4 ≤ 16 := V_4 hV
  refine ok_aloadn (pc' := 1) i144_0 rfl rfl <| ok_cc i144_1 rfl (cl_v o144 m0_132 na99 rfl rfl (bt rfl) (bt rfl) rfl (by rw [ShYard_k0 hSY, o99])) ln99 (pd99 (aR Y)) <| ok_aloadn (pc' := 1) i99_0 rfl rfl <| ok_getfi (v := 1) (pc' := 4) i99_1 o99 gi0_268 (ShYard_k0 hSY) hYd rfl <| ok_kz1 (pc1 := 18) (pc2 := 7) i99_4 (by decide) rfl rfl <| ok_vret i99_18 rt99 <| kt_0 (pc' := 4) rfl <| ok_aloadn (pc' := 5) i144_4 rfl rfl <| ?_
  refine ok_iloadn (pc' := 6) i144_5 rfl rfl <| ok_cc i144_6 rfl (cl_v o144 m0_186 na108 rfl rfl (bt rfl) (bt rfl) rfl (by rw [ShYard_k0 hSY, o108])) ln108 (pd108 (aR Y) (aI x1)) <| ok_iloadn (pc' := 1) i108_0 rfl rfl <| ?_
  refine ok_zlt (pc1 := 15) (pc2 := 4) i108_1 (by omega) rfl rfl (fun h9 => by exfalso; omega) (fun h1 => ?_)
  refine ok_iloadn (pc' := 5) i108_4 rfl rfl <| ok_aloadn (pc' := 6) i108_5 rfl rfl <| ok_getfr (r := P) (pc' := 9) i108_6 o108 gr0_32 (ShYard_k0 hSY) (ShYard_r7 hSY) rfl <| ok_getfi (v := (q 1)) (pc' := 12) i108_9 o108 gi0_141 (ShPlan_k0 hSP) (RepP_f3 hRP) rfl <| ?_
  refine ok_clt (pc1 := 26) (pc2 := 15) i108_12 (by omega) rfl rfl (fun h2 => ?_) (fun h9 => by exfalso; omega)
  refine ok_vret i108_26 rt108 <| kt_0 (pc' := 9) rfl <| ok_aloadn (pc' := 10) i144_9 rfl rfl <| ok_iloadn (pc' := 11) i144_10 rfl rfl <| ok_cc i144_11 rfl (cl_v o144 m0_169 na103 rfl rfl (bt rfl) (bt rfl) rfl (by rw [ShYard_k0 hSY, o103])) ln103 (pd103 (aR Y) (aI x2)) <| ok_iloadn (pc' := 1) i103_0 rfl rfl <| ?_
  refine ok_zlt (pc1 := 15) (pc2 := 4) i103_1 (by omega) rfl rfl (fun h9 => by exfalso; omega) (fun h3 => ?_)
  refine ok_iloadn (pc' := 5) i103_4 rfl rfl <| ok_aloadn (pc' := 6) i103_5 rfl rfl <| ok_getfr (r := A) (pc' := 9) i103_6 o103 gr0_39 (ShYard_k0 hSY) (ShYard_r8 hSY) rfl <| ok_getfi (v := (s 3)) (pc' := 12) i103_9 o103 gi0_129 (ShState_k0 hSA) (RepS_f2 hRA) rfl <| ?_
  refine ok_clt (pc1 := 26) (pc2 := 15) i103_12 (by omega) rfl rfl (fun h4 => ?_) (fun h9 => by exfalso; omega)
  refine ok_vret i103_26 rt103 <| kt_0 (pc' := 14) rfl <| ok_aloadn (pc' := 15) i144_14 rfl rfl <| ok_getfr (r := V) (pc' := 18) i144_15 o144 gr0_48 (ShYard_k0 hSY) (ShYard_r9 hSY) rfl <| ok_iloadn (pc' := 19) i144_18 rfl rfl <| ok_iloadn (pc' := 20) i144_19 rfl rfl <| ok_cp (pc' := 23) (d0 := 1) i144_20 rfl (cl_v o144 m0_229 na37 rfl rfl (bt rfl) (bt rfl) rfl (by rw [ShWorks_k0 hSV, o37])) ln37 (pd37 (aR V) (aI x1) (aI x2)) (by omega) (t37 (x1 := x1) (x2 := x2) hSV hSP hSA hRP hRA hQ hV (by omega) (by omega)) rfl <| ?_
  have z1 : -1 ≤ (r37 q s x1 x2) ∧ (r37 q s x1 x2) ≤ 200 := x37 (M := M) (x1 := x1) (x2 := x2) hSV hSP hSA hRP hRA hQ hV (by omega) (by omega)
  refine ok_iconst (pc' := 24) i144_23 rfl <| ?_
  refine ok_cne (pc1 := 38) (pc2 := 27) i144_24 (by omega) rfl rfl (fun h9 => by exfalso; omega) (fun h5 => ?_)
  refine ok_throw th144_27 (bt rfl) <| ?_
  exact ⟨rfl, rfl, rfl⟩
theorem y145_x {g : AG} {M : AM} {Y P A V T K H X : Nat} {q s : Int → Int} {b : Int} (hSY : ShYard g Y P A V T K H X) (hSV : ShWorks g V P A) (hSP : ShPlan g P) (hSA : ShState g A) (hRP : RepP M P q) (hRA : RepS M A s) (hQ : ValQ q) (hV : Val b q s) (hYd : M Y 6 = 1) :
    Ok 5 145 0 [aR Y, aI 4] [] g M (fun o g1 M1 => o = .inr 11 ∧ g1 = am_alloc g 30 0 6 ∧ M1 = M) := by
  have yq0 : 0 ≤ q 0 ∧ q 0 ≤ 4 := Q_0 hQ
  have yq1 : 0 ≤ q 1 ∧ q 1 ≤ 6 := Q_1 hQ
  have ys3 : 0 ≤ s 3 ∧ s 3 ≤ 80 := V_3 hV
  have ys4 : 0 ≤ s 4 ∧ s 4 ≤ 16 := V_4 hV
  refine ok_aloadn (pc' := 1) i145_0 rfl rfl <| ok_cc i145_1 rfl (cl_v o145 m0_132 na99 rfl rfl (bt rfl) (bt rfl) rfl (by rw [ShYard_k0 hSY, o99])) ln99 (pd99 (aR Y)) <| ok_aloadn (pc' := 1) i99_0 rfl rfl <| ok_getfi (v := 1) (pc' := 4) i99_1 o99 gi0_268 (ShYard_k0 hSY) hYd rfl <| ok_kz1 (pc1 := 18) (pc2 := 7) i99_4 (by decide) rfl rfl <| ok_vret i99_18 rt99 <| kt_0 (pc' := 4) rfl <| ok_iloadn (pc' := 5) i145_4 rfl rfl <| ?_
  refine ok_iconst (pc' := 6) i145_5 rfl <| ok_iconst (pc' := 7) i145_6 rfl <| ok_cc i145_7 rfl (cl_s o145 m0_172 na104 rfl rfl (bt rfl) (bt rfl) rfl) ln104 (pd104 (aI 4) (aI 0) (aI 3)) <| ok_iloadn (pc' := 1) i104_0 rfl rfl <| ok_iloadn (pc' := 2) i104_1 rfl rfl <| ok_kc0 (pc1 := 10) (pc2 := 5) i104_2 (by decide) rfl rfl <| ok_iloadn (pc' := 6) i104_5 rfl rfl <| ok_iloadn (pc' := 7) i104_6 rfl rfl <| ?_
  refine ok_kc0 (pc1 := 21) (pc2 := 10) i104_7 (by decide) rfl rfl <| ok_throw th104_10 (bt rfl) <| kt_x hh145 <| ?_
  exact ⟨rfl, rfl, rfl⟩
theorem y147_x0 {g : AG} {M : AM} {Y P A V T K H X : Nat} {q s : Int → Int} {b : Int} {x1 : Int} (hSY : ShYard g Y P A V T K H X) (hSV : ShWorks g V P A) (hSP : ShPlan g P) (hSA : ShState g A) (hRP : RepP M P q) (hRA : RepS M A s) (hQ : ValQ q) (hV : Val b q s) (h0 : q 0 ≤ x1 ∧ x1 ≤ 100) (hYd : M Y 6 = 1) :
    Ok 2 147 0 [aR Y, aI x1] [] g M (fun o g1 M1 => o = .inr 10 ∧ g1 = am_alloc g 30 0 6 ∧ M1 = M) := by
  have yq0 : 0 ≤ q 0 ∧ q 0 ≤ 4 := Q_0 hQ
  have yq1 : 0 ≤ q 1 ∧ q 1 ≤ 6 := Q_1 hQ
  have ys3 : 0 ≤ s 3 ∧ s 3 ≤ 80 := V_3 hV
  have ys4 : 0 ≤ s 4 ∧ s 4 ≤ 16 := V_4 hV
  refine ok_aloadn (pc' := 1) i147_0 rfl rfl <| ok_cc i147_1 rfl (cl_v o147 m0_132 na99 rfl rfl (bt rfl) (bt rfl) rfl (by rw [ShYard_k0 hSY, o99])) ln99 (pd99 (aR Y)) <| ok_aloadn (pc' := 1) i99_0 rfl rfl <| ok_getfi (v := 1) (pc' := 4) i99_1 o99 gi0_268 (ShYard_k0 hSY) hYd rfl <| ok_kz1 (pc1 := 18) (pc2 := 7) i99_4 (by decide) rfl rfl <| ok_vret i99_18 rt99 <| kt_0 (pc' := 4) rfl <| ok_aloadn (pc' := 5) i147_4 rfl rfl <| ?_
  refine ok_iloadn (pc' := 6) i147_5 rfl rfl <| ok_cc i147_6 rfl (cl_v o147 m0_158 na101 rfl rfl (bt rfl) (bt rfl) rfl (by rw [ShYard_k0 hSY, o101])) ln101 (pd101 (aR Y) (aI x1)) <| ok_iloadn (pc' := 1) i101_0 rfl rfl <| ?_
  refine ok_zlt (pc1 := 15) (pc2 := 4) i101_1 (by omega) rfl rfl (fun h9 => by exfalso; omega) (fun h1 => ?_)
  refine ok_iloadn (pc' := 5) i101_4 rfl rfl <| ok_aloadn (pc' := 6) i101_5 rfl rfl <| ok_getfr (r := P) (pc' := 9) i101_6 o101 gr0_32 (ShYard_k0 hSY) (ShYard_r7 hSY) rfl <| ok_getfi (v := (q 0)) (pc' := 12) i101_9 o101 gi0_135 (ShPlan_k0 hSP) (RepP_f0 hRP) rfl <| ?_
  refine ok_clt (pc1 := 26) (pc2 := 15) i101_12 (by omega) rfl rfl (fun h9 => by exfalso; omega) (fun h2 => ?_)
  refine ok_throw th101_15 (bt rfl) <| kt_x hh147 <| ?_
  exact ⟨rfl, rfl, rfl⟩
theorem y147_x1 {g : AG} {M : AM} {Y P A V T K H X : Nat} {q s : Int → Int} {b : Int} {x1 : Int} (hSY : ShYard g Y P A V T K H X) (hSV : ShWorks g V P A) (hSP : ShPlan g P) (hSA : ShState g A) (hRP : RepP M P q) (hRA : RepS M A s) (hQ : ValQ q) (hV : Val b q s) (h0 : 0 ≤ x1 ∧ x1 < q 0) (h1 : 40 ≤ s 3) (hYd : M Y 6 = 1) :
    Ok 2 147 0 [aR Y, aI x1] [] g M (fun o g1 M1 => o = .inr 11 ∧ g1 = am_alloc g 30 0 6 ∧ M1 = M) := by
  have yq0 : 0 ≤ q 0 ∧ q 0 ≤ 4 := Q_0 hQ
  have yq1 : 0 ≤ q 1 ∧ q 1 ≤ 6 := Q_1 hQ
  have ys3 : 0 ≤ s 3 ∧ s 3 ≤ 80 := V_3 hV
  have ys4 : 0 ≤ s 4 ∧ s 4 ≤ 16 := V_4 hV
  refine ok_aloadn (pc' := 1) i147_0 rfl rfl <| ok_cc i147_1 rfl (cl_v o147 m0_132 na99 rfl rfl (bt rfl) (bt rfl) rfl (by rw [ShYard_k0 hSY, o99])) ln99 (pd99 (aR Y)) <| ok_aloadn (pc' := 1) i99_0 rfl rfl <| ok_getfi (v := 1) (pc' := 4) i99_1 o99 gi0_268 (ShYard_k0 hSY) hYd rfl <| ok_kz1 (pc1 := 18) (pc2 := 7) i99_4 (by decide) rfl rfl <| ok_vret i99_18 rt99 <| kt_0 (pc' := 4) rfl <| ok_aloadn (pc' := 5) i147_4 rfl rfl <| ?_
  refine ok_iloadn (pc' := 6) i147_5 rfl rfl <| ok_cc i147_6 rfl (cl_v o147 m0_158 na101 rfl rfl (bt rfl) (bt rfl) rfl (by rw [ShYard_k0 hSY, o101])) ln101 (pd101 (aR Y) (aI x1)) <| ok_iloadn (pc' := 1) i101_0 rfl rfl <| ?_
  refine ok_zlt (pc1 := 15) (pc2 := 4) i101_1 (by omega) rfl rfl (fun h9 => by exfalso; omega) (fun h1 => ?_)
  refine ok_iloadn (pc' := 5) i101_4 rfl rfl <| ok_aloadn (pc' := 6) i101_5 rfl rfl <| ok_getfr (r := P) (pc' := 9) i101_6 o101 gr0_32 (ShYard_k0 hSY) (ShYard_r7 hSY) rfl <| ok_getfi (v := (q 0)) (pc' := 12) i101_9 o101 gi0_135 (ShPlan_k0 hSP) (RepP_f0 hRP) rfl <| ?_
  refine ok_clt (pc1 := 26) (pc2 := 15) i101_12 (by omega) rfl rfl (fun h2 => ?_) (fun h9 => by exfalso; omega)
  refine ok_vret i101_26 rt101 <| kt_0 (pc' := 9) rfl <| ok_aloadn (pc' := 10) i147_9 rfl rfl <| ok_getfr (r := A) (pc' := 13) i147_10 o147 gr0_39 (ShYard_k0 hSY) (ShYard_r8 hSY) rfl <| ok_getfi (v := (s 3)) (pc' := 16) i147_13 o147 gi0_129 (ShState_k0 hSA) (RepS_f2 hRA) rfl <| ok_bipush (v := 40) (pc' := 18) i147_16 rfl rfl <| ?_
  refine ok_clt (pc1 := 32) (pc2 := 21) i147_18 (by omega) rfl rfl (fun h9 => by exfalso; omega) (fun h3 => ?_)
  refine ok_throw th147_21 (bt rfl) <| ?_
  exact ⟨rfl, rfl, rfl⟩
theorem y148_x0 {g : AG} {M : AM} {Y P A V T K H X : Nat} {q s : Int → Int} {b : Int} {x1 x2 x3 x4 : Int} (hSY : ShYard g Y P A V T K H X) (hSV : ShWorks g V P A) (hSP : ShPlan g P) (hSA : ShState g A) (hRP : RepP M P q) (hRA : RepS M A s) (hQ : ValQ q) (hV : Val b q s) (h0 : 16 ≤ s 4) (hYd : M Y 6 = 1) :
    Ok 2 148 0 [aR Y, aI x1, aI x2, aI x3, aI x4, aU] [] g M (fun o g1 M1 => o = .inr 11 ∧ g1 = am_alloc g 30 0 6 ∧ M1 = M) := by
  have yq0 : 0 ≤ q 0 ∧ q 0 ≤ 4 := Q_0 hQ
  have yq1 : 0 ≤ q 1 ∧ q 1 ≤ 6 := Q_1 hQ
  have ys3 : 0 ≤ s 3 ∧ s 3 ≤ 80 := V_3 hV
  have ys4 : 0 ≤ s 4 ∧ s 4 ≤ 16 := V_4 hV
  refine ok_aloadn (pc' := 1) i148_0 rfl rfl <| ok_cc i148_1 rfl (cl_v o148 m0_132 na99 rfl rfl (bt rfl) (bt rfl) rfl (by rw [ShYard_k0 hSY, o99])) ln99 (pd99 (aR Y)) <| ok_aloadn (pc' := 1) i99_0 rfl rfl <| ok_getfi (v := 1) (pc' := 4) i99_1 o99 gi0_268 (ShYard_k0 hSY) hYd rfl <| ok_kz1 (pc1 := 18) (pc2 := 7) i99_4 (by decide) rfl rfl <| ok_vret i99_18 rt99 <| kt_0 (pc' := 4) rfl <| ok_aloadn (pc' := 5) i148_4 rfl rfl <| ?_
  refine ok_getfr (r := A) (pc' := 8) i148_5 o148 gr0_39 (ShYard_k0 hSY) (ShYard_r8 hSY) rfl <| ok_getfi (v := (s 4)) (pc' := 11) i148_8 o148 gi0_138 (ShState_k0 hSA) (RepS_f4 hRA) rfl <| ok_bipush (v := 16) (pc' := 13) i148_11 rfl rfl <| ?_
  refine ok_clt (pc1 := 27) (pc2 := 16) i148_13 (by omega) rfl rfl (fun h9 => by exfalso; omega) (fun h1 => ?_)
  refine ok_throw th148_16 (bt rfl) <| ?_
  exact ⟨rfl, rfl, rfl⟩
theorem y148_x1 {g : AG} {M : AM} {Y P A V T K H X : Nat} {q s : Int → Int} {b : Int} (hSY : ShYard g Y P A V T K H X) (hSV : ShWorks g V P A) (hSP : ShPlan g P) (hSA : ShState g A) (hRP : RepP M P q) (hRA : RepS M A s) (hQ : ValQ q) (hV : Val b q s) (h0 : s 4 < 16) (hYd : M Y 6 = 1) :
    Ok 2 148 0 [aR Y, aI 1, aI 10, aI 0, aI 0, aU] [] g M (fun o g1 M1 => o = .inr 11 ∧ g1 = am_alloc g 30 0 6 ∧ M1 = M) := by
  have yq0 : 0 ≤ q 0 ∧ q 0 ≤ 4 := Q_0 hQ
  have yq1 : 0 ≤ q 1 ∧ q 1 ≤ 6 := Q_1 hQ
  have ys3 : 0 ≤ s 3 ∧ s 3 ≤ 80 := V_3 hV
  have ys4 : 0 ≤ s 4 ∧ s 4 ≤ 16 := V_4 hV
  refine ok_aloadn (pc' := 1) i148_0 rfl rfl <| ok_cc i148_1 rfl (cl_v o148 m0_132 na99 rfl rfl (bt rfl) (bt rfl) rfl (by rw [ShYard_k0 hSY, o99])) ln99 (pd99 (aR Y)) <| ok_aloadn (pc' := 1) i99_0 rfl rfl <| ok_getfi (v := 1) (pc' := 4) i99_1 o99 gi0_268 (ShYard_k0 hSY) hYd rfl <| ok_kz1 (pc1 := 18) (pc2 := 7) i99_4 (by decide) rfl rfl <| ok_vret i99_18 rt99 <| kt_0 (pc' := 4) rfl <| ok_aloadn (pc' := 5) i148_4 rfl rfl <| ?_
  refine ok_getfr (r := A) (pc' := 8) i148_5 o148 gr0_39 (ShYard_k0 hSY) (ShYard_r8 hSY) rfl <| ok_getfi (v := (s 4)) (pc' := 11) i148_8 o148 gi0_138 (ShState_k0 hSA) (RepS_f4 hRA) rfl <| ok_bipush (v := 16) (pc' := 13) i148_11 rfl rfl <| ?_
  refine ok_clt (pc1 := 27) (pc2 := 16) i148_13 (by omega) rfl rfl (fun h1 => ?_) (fun h9 => by exfalso; omega)
  refine ok_iloadn (pc' := 28) i148_27 rfl rfl <| ok_cc i148_28 rfl (cl_s o148 m0_203 na113 rfl rfl (bt rfl) (bt rfl) rfl) ln113 (pd113 (aI 1)) <| ok_iloadn (pc' := 1) i113_0 rfl rfl <| ok_iconst (pc' := 2) i113_1 rfl <| ok_sipush (v := 200) (pc' := 5) i113_2 rfl rfl <| ok_cc i113_5 rfl (cl_s o113 m0_172 na104 rfl rfl (bt rfl) (bt rfl) rfl) ln104 (pd104 (aI 1) (aI 1) (aI 200)) <| ok_iloadn (pc' := 1) i104_0 rfl rfl <| ok_iloadn (pc' := 2) i104_1 rfl rfl <| ?_
  refine ok_kc0 (pc1 := 10) (pc2 := 5) i104_2 (by decide) rfl rfl <| ok_iloadn (pc' := 6) i104_5 rfl rfl <| ok_iloadn (pc' := 7) i104_6 rfl rfl <| ok_kc1 (pc1 := 21) (pc2 := 10) i104_7 (by decide) rfl rfl <| ok_vret i104_21 rt104 <| kt_0 (pc' := 8) rfl <| ok_vret i113_8 rt113 <| kt_0 (pc' := 31) rfl <| ?_
  refine ok_iloadn (pc' := 32) i148_31 rfl rfl <| ok_iconst (pc' := 33) i148_32 rfl <| ok_bipush (v := 9) (pc' := 35) i148_33 rfl rfl <| ok_cc i148_35 rfl (cl_s o148 m0_172 na104 rfl rfl (bt rfl) (bt rfl) rfl) ln104 (pd104 (aI 10) (aI 1) (aI 9)) <| ok_iloadn (pc' := 1) i104_0 rfl rfl <| ok_iloadn (pc' := 2) i104_1 rfl rfl <| ok_kc0 (pc1 := 10) (pc2 := 5) i104_2 (by decide) rfl rfl <| ok_iloadn (pc' := 6) i104_5 rfl rfl <| ?_
  refine ok_iloadn (pc' := 7) i104_6 rfl rfl <| ok_kc0 (pc1 := 21) (pc2 := 10) i104_7 (by decide) rfl rfl <| ok_throw th104_10 (bt rfl) <| kt_x hh148 <| ?_
  exact ⟨rfl, rfl, rfl⟩
theorem y148_x2 {g : AG} {M : AM} {Y P A V T K H X : Nat} {q s : Int → Int} {b : Int} (hSY : ShYard g Y P A V T K H X) (hSV : ShWorks g V P A) (hSP : ShPlan g P) (hSA : ShState g A) (hRP : RepP M P q) (hRA : RepS M A s) (hQ : ValQ q) (hV : Val b q s) (h0 : s 4 < 16) (hYd : M Y 6 = 1) :
    Ok 2 148 0 [aR Y, aI 1, aI 1, aI 100, aI 0, aU] [] g M (fun o g1 M1 => o = .inr 11 ∧ g1 = am_alloc g 30 0 6 ∧ M1 = M) := by
  have yq0 : 0 ≤ q 0 ∧ q 0 ≤ 4 := Q_0 hQ
  have yq1 : 0 ≤ q 1 ∧ q 1 ≤ 6 := Q_1 hQ
  have ys3 : 0 ≤ s 3 ∧ s 3 ≤ 80 := V_3 hV
  have ys4 : 0 ≤ s 4 ∧ s 4 ≤ 16 := V_4 hV
  refine ok_aloadn (pc' := 1) i148_0 rfl rfl <| ok_cc i148_1 rfl (cl_v o148 m0_132 na99 rfl rfl (bt rfl) (bt rfl) rfl (by rw [ShYard_k0 hSY, o99])) ln99 (pd99 (aR Y)) <| ok_aloadn (pc' := 1) i99_0 rfl rfl <| ok_getfi (v := 1) (pc' := 4) i99_1 o99 gi0_268 (ShYard_k0 hSY) hYd rfl <| ok_kz1 (pc1 := 18) (pc2 := 7) i99_4 (by decide) rfl rfl <| ok_vret i99_18 rt99 <| kt_0 (pc' := 4) rfl <| ok_aloadn (pc' := 5) i148_4 rfl rfl <| ?_
  refine ok_getfr (r := A) (pc' := 8) i148_5 o148 gr0_39 (ShYard_k0 hSY) (ShYard_r8 hSY) rfl <| ok_getfi (v := (s 4)) (pc' := 11) i148_8 o148 gi0_138 (ShState_k0 hSA) (RepS_f4 hRA) rfl <| ok_bipush (v := 16) (pc' := 13) i148_11 rfl rfl <| ?_
  refine ok_clt (pc1 := 27) (pc2 := 16) i148_13 (by omega) rfl rfl (fun h1 => ?_) (fun h9 => by exfalso; omega)
  refine ok_iloadn (pc' := 28) i148_27 rfl rfl <| ok_cc i148_28 rfl (cl_s o148 m0_203 na113 rfl rfl (bt rfl) (bt rfl) rfl) ln113 (pd113 (aI 1)) <| ok_iloadn (pc' := 1) i113_0 rfl rfl <| ok_iconst (pc' := 2) i113_1 rfl <| ok_sipush (v := 200) (pc' := 5) i113_2 rfl rfl <| ok_cc i113_5 rfl (cl_s o113 m0_172 na104 rfl rfl (bt rfl) (bt rfl) rfl) ln104 (pd104 (aI 1) (aI 1) (aI 200)) <| ok_iloadn (pc' := 1) i104_0 rfl rfl <| ok_iloadn (pc' := 2) i104_1 rfl rfl <| ?_
  refine ok_kc0 (pc1 := 10) (pc2 := 5) i104_2 (by decide) rfl rfl <| ok_iloadn (pc' := 6) i104_5 rfl rfl <| ok_iloadn (pc' := 7) i104_6 rfl rfl <| ok_kc1 (pc1 := 21) (pc2 := 10) i104_7 (by decide) rfl rfl <| ok_vret i104_21 rt104 <| kt_0 (pc' := 8) rfl <| ok_vret i113_8 rt113 <| kt_0 (pc' := 31) rfl <| ?_
  refine ok_iloadn (pc' := 32) i148_31 rfl rfl <| ok_iconst (pc' := 33) i148_32 rfl <| ok_bipush (v := 9) (pc' := 35) i148_33 rfl rfl <| ok_cc i148_35 rfl (cl_s o148 m0_172 na104 rfl rfl (bt rfl) (bt rfl) rfl) ln104 (pd104 (aI 1) (aI 1) (aI 9)) <| ok_iloadn (pc' := 1) i104_0 rfl rfl <| ok_iloadn (pc' := 2) i104_1 rfl rfl <| ok_kc0 (pc1 := 10) (pc2 := 5) i104_2 (by decide) rfl rfl <| ok_iloadn (pc' := 6) i104_5 rfl rfl <| ?_
  refine ok_iloadn (pc' := 7) i104_6 rfl rfl <| ok_kc1 (pc1 := 21) (pc2 := 10) i104_7 (by decide) rfl rfl <| ok_vret i104_21 rt104 <| kt_0 (pc' := 38) rfl <| ok_iloadn (pc' := 39) i148_38 rfl rfl <| ok_iconst (pc' := 40) i148_39 rfl <| ok_bipush (v := 99) (pc' := 42) i148_40 rfl rfl <| ok_cc i148_42 rfl (cl_s o148 m0_172 na104 rfl rfl (bt rfl) (bt rfl) rfl) ln104 (pd104 (aI 100) (aI 0) (aI 99)) <| ?_
  refine ok_iloadn (pc' := 1) i104_0 rfl rfl <| ok_iloadn (pc' := 2) i104_1 rfl rfl <| ok_kc0 (pc1 := 10) (pc2 := 5) i104_2 (by decide) rfl rfl <| ok_iloadn (pc' := 6) i104_5 rfl rfl <| ok_iloadn (pc' := 7) i104_6 rfl rfl <| ok_kc0 (pc1 := 21) (pc2 := 10) i104_7 (by decide) rfl rfl <| ok_throw th104_10 (bt rfl) <| kt_x hh148 <| ?_
  exact ⟨rfl, rfl, rfl⟩
theorem y148_x3 {g : AG} {M : AM} {Y P A V T K H X : Nat} {q s : Int → Int} {b : Int} (hSY : ShYard g Y P A V T K H X) (hSV : ShWorks g V P A) (hSP : ShPlan g P) (hSA : ShState g A) (hRP : RepP M P q) (hRA : RepS M A s) (hQ : ValQ q) (hV : Val b q s) (h0 : s 4 < 16) (hYd : M Y 6 = 1) :
    Ok 2 148 0 [aR Y, aI 1, aI 1, aI 0, aI 1000, aU] [] g M (fun o g1 M1 => o = .inr 11 ∧ g1 = am_alloc g 30 0 6 ∧ M1 = M) := by
  have yq0 : 0 ≤ q 0 ∧ q 0 ≤ 4 := Q_0 hQ
  have yq1 : 0 ≤ q 1 ∧ q 1 ≤ 6 := Q_1 hQ
  have ys3 : 0 ≤ s 3 ∧ s 3 ≤ 80 := V_3 hV
  have ys4 : 0 ≤ s 4 ∧ s 4 ≤ 16 := V_4 hV
  refine ok_aloadn (pc' := 1) i148_0 rfl rfl <| ok_cc i148_1 rfl (cl_v o148 m0_132 na99 rfl rfl (bt rfl) (bt rfl) rfl (by rw [ShYard_k0 hSY, o99])) ln99 (pd99 (aR Y)) <| ok_aloadn (pc' := 1) i99_0 rfl rfl <| ok_getfi (v := 1) (pc' := 4) i99_1 o99 gi0_268 (ShYard_k0 hSY) hYd rfl <| ok_kz1 (pc1 := 18) (pc2 := 7) i99_4 (by decide) rfl rfl <| ok_vret i99_18 rt99 <| kt_0 (pc' := 4) rfl <| ok_aloadn (pc' := 5) i148_4 rfl rfl <| ?_
  refine ok_getfr (r := A) (pc' := 8) i148_5 o148 gr0_39 (ShYard_k0 hSY) (ShYard_r8 hSY) rfl <| ok_getfi (v := (s 4)) (pc' := 11) i148_8 o148 gi0_138 (ShState_k0 hSA) (RepS_f4 hRA) rfl <| ok_bipush (v := 16) (pc' := 13) i148_11 rfl rfl <| ?_
  refine ok_clt (pc1 := 27) (pc2 := 16) i148_13 (by omega) rfl rfl (fun h1 => ?_) (fun h9 => by exfalso; omega)
  refine ok_iloadn (pc' := 28) i148_27 rfl rfl <| ok_cc i148_28 rfl (cl_s o148 m0_203 na113 rfl rfl (bt rfl) (bt rfl) rfl) ln113 (pd113 (aI 1)) <| ok_iloadn (pc' := 1) i113_0 rfl rfl <| ok_iconst (pc' := 2) i113_1 rfl <| ok_sipush (v := 200) (pc' := 5) i113_2 rfl rfl <| ok_cc i113_5 rfl (cl_s o113 m0_172 na104 rfl rfl (bt rfl) (bt rfl) rfl) ln104 (pd104 (aI 1) (aI 1) (aI 200)) <| ok_iloadn (pc' := 1) i104_0 rfl rfl <| ok_iloadn (pc' := 2) i104_1 rfl rfl <| ?_
  refine ok_kc0 (pc1 := 10) (pc2 := 5) i104_2 (by decide) rfl rfl <| ok_iloadn (pc' := 6) i104_5 rfl rfl <| ok_iloadn (pc' := 7) i104_6 rfl rfl <| ok_kc1 (pc1 := 21) (pc2 := 10) i104_7 (by decide) rfl rfl <| ok_vret i104_21 rt104 <| kt_0 (pc' := 8) rfl <| ok_vret i113_8 rt113 <| kt_0 (pc' := 31) rfl <| ?_
  refine ok_iloadn (pc' := 32) i148_31 rfl rfl <| ok_iconst (pc' := 33) i148_32 rfl <| ok_bipush (v := 9) (pc' := 35) i148_33 rfl rfl <| ok_cc i148_35 rfl (cl_s o148 m0_172 na104 rfl rfl (bt rfl) (bt rfl) rfl) ln104 (pd104 (aI 1) (aI 1) (aI 9)) <| ok_iloadn (pc' := 1) i104_0 rfl rfl <| ok_iloadn (pc' := 2) i104_1 rfl rfl <| ok_kc0 (pc1 := 10) (pc2 := 5) i104_2 (by decide) rfl rfl <| ok_iloadn (pc' := 6) i104_5 rfl rfl <| ?_
  refine ok_iloadn (pc' := 7) i104_6 rfl rfl <| ok_kc1 (pc1 := 21) (pc2 := 10) i104_7 (by decide) rfl rfl <| ok_vret i104_21 rt104 <| kt_0 (pc' := 38) rfl <| ok_iloadn (pc' := 39) i148_38 rfl rfl <| ok_iconst (pc' := 40) i148_39 rfl <| ok_bipush (v := 99) (pc' := 42) i148_40 rfl rfl <| ok_cc i148_42 rfl (cl_s o148 m0_172 na104 rfl rfl (bt rfl) (bt rfl) rfl) ln104 (pd104 (aI 0) (aI 0) (aI 99)) <| ?_
  refine ok_iloadn (pc' := 1) i104_0 rfl rfl <| ok_iloadn (pc' := 2) i104_1 rfl rfl <| ok_kc0 (pc1 := 10) (pc2 := 5) i104_2 (by decide) rfl rfl <| ok_iloadn (pc' := 6) i104_5 rfl rfl <| ok_iloadn (pc' := 7) i104_6 rfl rfl <| ok_kc1 (pc1 := 21) (pc2 := 10) i104_7 (by decide) rfl rfl <| ok_vret i104_21 rt104 <| kt_0 (pc' := 45) rfl <| ?_
  refine ok_iload (pc' := 47) i148_45 rfl rfl <| ok_iconst (pc' := 48) i148_47 rfl <| ok_sipush (v := 999) (pc' := 51) i148_48 rfl rfl <| ok_cc i148_51 rfl (cl_s o148 m0_172 na104 rfl rfl (bt rfl) (bt rfl) rfl) ln104 (pd104 (aI 1000) (aI 0) (aI 999)) <| ok_iloadn (pc' := 1) i104_0 rfl rfl <| ok_iloadn (pc' := 2) i104_1 rfl rfl <| ok_kc0 (pc1 := 10) (pc2 := 5) i104_2 (by decide) rfl rfl <| ok_iloadn (pc' := 6) i104_5 rfl rfl <| ?_
  refine ok_iloadn (pc' := 7) i104_6 rfl rfl <| ok_kc0 (pc1 := 21) (pc2 := 10) i104_7 (by decide) rfl rfl <| ok_throw th104_10 (bt rfl) <| kt_x hh148 <| ?_
  exact ⟨rfl, rfl, rfl⟩
theorem y149_x0 {g : AG} {M : AM} {Y P A V T K H X : Nat} {q s : Int → Int} {b : Int} {x1 : Int} (hSY : ShYard g Y P A V T K H X) (hSV : ShWorks g V P A) (hSP : ShPlan g P) (hSA : ShState g A) (hRP : RepP M P q) (hRA : RepS M A s) (hQ : ValQ q) (hV : Val b q s) (h0 : s 4 ≤ x1 ∧ x1 ≤ 100) (hYd : M Y 6 = 1) :
    Ok 2 149 0 [aR Y, aI x1, aU] [] g M (fun o g1 M1 => o = .inr 10 ∧ g1 = am_alloc g 30 0 6 ∧ M1 = M) := by
  have yq0 : 0 ≤ q 0 ∧ q 0 ≤ 4 := Q_0 hQ
  have yq1 : 0 ≤ q 1 ∧ q 1 ≤ 6 := Q_1 hQ
  have ys3 : 0 ≤ s 3 ∧ s 3 ≤ 80 := V_3 hV
  have ys4 : 0 ≤ s 4 ∧ s 4 ≤ 16 := V_4 hV
  refine ok_aloadn (pc' := 1) i149_0 rfl rfl <| ok_cc i149_1 rfl (cl_v o149 m0_132 na99 rfl rfl (bt rfl) (bt rfl) rfl (by rw [ShYard_k0 hSY, o99])) ln99 (pd99 (aR Y)) <| ok_aloadn (pc' := 1) i99_0 rfl rfl <| ok_getfi (v := 1) (pc' := 4) i99_1 o99 gi0_268 (ShYard_k0 hSY) hYd rfl <| ok_kz1 (pc1 := 18) (pc2 := 7) i99_4 (by decide) rfl rfl <| ok_vret i99_18 rt99 <| kt_0 (pc' := 4) rfl <| ok_aloadn (pc' := 5) i149_4 rfl rfl <| ?_
  refine ok_iloadn (pc' := 6) i149_5 rfl rfl <| ok_cc i149_6 rfl (cl_v o149 m0_180 na106 rfl rfl (bt rfl) (bt rfl) rfl (by rw [ShYard_k0 hSY, o106])) ln106 (pd106 (aR Y) (aI x1)) <| ok_iloadn (pc' := 1) i106_0 rfl rfl <| ?_
  refine ok_zlt (pc1 := 15) (pc2 := 4) i106_1 (by omega) rfl rfl (fun h9 => by exfalso; omega) (fun h1 => ?_)
  refine ok_iloadn (pc' := 5) i106_4 rfl rfl <| ok_aloadn (pc' := 6) i106_5 rfl rfl <| ok_getfr (r := A) (pc' := 9) i106_6 o106 gr0_39 (ShYard_k0 hSY) (ShYard_r8 hSY) rfl <| ok_getfi (v := (s 4)) (pc' := 12) i106_9 o106 gi0_138 (ShState_k0 hSA) (RepS_f4 hRA) rfl <| ?_
  refine ok_clt (pc1 := 26) (pc2 := 15) i106_12 (by omega) rfl rfl (fun h9 => by exfalso; omega) (fun h2 => ?_)
  refine ok_throw th106_15 (bt rfl) <| kt_x hh149 <| ?_
  exact ⟨rfl, rfl, rfl⟩
theorem y149_x1 {g : AG} {M : AM} {Y P A V T K H X : Nat} {q s : Int → Int} {b : Int} {x1 : Int} (hSY : ShYard g Y P A V T K H X) (hSV : ShWorks g V P A) (hSP : ShPlan g P) (hSA : ShState g A) (hRP : RepP M P q) (hRA : RepS M A s) (hQ : ValQ q) (hV : Val b q s) (h0 : 0 ≤ x1 ∧ x1 < s 4) (h1 : s ((414 + (8 * x1)) + 4) = 0) (hYd : M Y 6 = 1) :
    Ok 2 149 0 [aR Y, aI x1, aU] [] g M (fun o g1 M1 => o = .inr 11 ∧ g1 = am_alloc g 30 0 6 ∧ M1 = M) := by
  have yq0 : 0 ≤ q 0 ∧ q 0 ≤ 4 := Q_0 hQ
  have yq1 : 0 ≤ q 1 ∧ q 1 ≤ 6 := Q_1 hQ
  have ys3 : 0 ≤ s 3 ∧ s 3 ≤ 80 := V_3 hV
  have ys4 : 0 ≤ s 4 ∧ s 4 ≤ 16 := V_4 hV
  refine ok_aloadn (pc' := 1) i149_0 rfl rfl <| ok_cc i149_1 rfl (cl_v o149 m0_132 na99 rfl rfl (bt rfl) (bt rfl) rfl (by rw [ShYard_k0 hSY, o99])) ln99 (pd99 (aR Y)) <| ok_aloadn (pc' := 1) i99_0 rfl rfl <| ok_getfi (v := 1) (pc' := 4) i99_1 o99 gi0_268 (ShYard_k0 hSY) hYd rfl <| ok_kz1 (pc1 := 18) (pc2 := 7) i99_4 (by decide) rfl rfl <| ok_vret i99_18 rt99 <| kt_0 (pc' := 4) rfl <| ok_aloadn (pc' := 5) i149_4 rfl rfl <| ?_
  refine ok_iloadn (pc' := 6) i149_5 rfl rfl <| ok_cc i149_6 rfl (cl_v o149 m0_180 na106 rfl rfl (bt rfl) (bt rfl) rfl (by rw [ShYard_k0 hSY, o106])) ln106 (pd106 (aR Y) (aI x1)) <| ok_iloadn (pc' := 1) i106_0 rfl rfl <| ?_
  refine ok_zlt (pc1 := 15) (pc2 := 4) i106_1 (by omega) rfl rfl (fun h9 => by exfalso; omega) (fun h1 => ?_)
  refine ok_iloadn (pc' := 5) i106_4 rfl rfl <| ok_aloadn (pc' := 6) i106_5 rfl rfl <| ok_getfr (r := A) (pc' := 9) i106_6 o106 gr0_39 (ShYard_k0 hSY) (ShYard_r8 hSY) rfl <| ok_getfi (v := (s 4)) (pc' := 12) i106_9 o106 gi0_138 (ShState_k0 hSA) (RepS_f4 hRA) rfl <| ?_
  refine ok_clt (pc1 := 26) (pc2 := 15) i106_12 (by omega) rfl rfl (fun h2 => ?_) (fun h9 => by exfalso; omega)
  refine ok_vret i106_26 rt106 <| kt_0 (pc' := 9) rfl <| ok_aloadn (pc' := 10) i149_9 rfl rfl <| ok_getfr (r := A) (pc' := 13) i149_10 o149 gr0_39 (ShYard_k0 hSY) (ShYard_r8 hSY) rfl <| ok_getfr (r := (A + 8)) (pc' := 16) i149_13 o149 gr0_183 (ShState_k0 hSA) (ShState_r5 hSA) rfl <| ok_iconst (pc' := 17) i149_16 rfl <| ok_aaload (r := (A + 13)) (pc' := 18) i149_17 (ShState_k8 hSA) (by decide) (ShState_l8 hSA) (by decide) (ShState_e8_4 hSA) rfl <| ok_iloadn (pc' := 19) i149_18 rfl rfl <| ?_
  have z1 : 0 ≤ s ((414 + (8 * x1)) + 4) ∧ s ((414 + (8 * x1)) + 4) ≤ 9 := V_o4 hV (i := x1) (by omega) (by omega)
  refine ok_iaload (v := (s ((414 + (8 * x1)) + 4))) (pc' := 20) i149_19 (ShState_k13 hSA) (by decide) (ShState_l13 hSA) (by omega) (RepS_13 hRA (by omega) (by omega)) rfl <| ok_istoren (pc' := 21) (ls' := [aR Y, aI x1, aI (s ((414 + (8 * x1)) + 4))]) i149_20 (bt rfl) rfl rfl <| ok_iloadn (pc' := 22) i149_21 rfl rfl <| ?_
  refine ok_zne (pc1 := 36) (pc2 := 25) i149_22 (by omega) rfl rfl (fun h9 => by exfalso; omega) (fun h3 => ?_)
  refine ok_throw th149_25 (bt rfl) <| ?_
  exact ⟨rfl, rfl, rfl⟩
theorem y150_x1 {g : AG} {M : AM} {Y P A V T K H X : Nat} {q s : Int → Int} {b : Int} {x1 : Int} (hSY : ShYard g Y P A V T K H X) (hSV : ShWorks g V P A) (hSP : ShPlan g P) (hSA : ShState g A) (hRP : RepP M P q) (hRA : RepS M A s) (hQ : ValQ q) (hV : Val b q s) (h0 : 0 ≤ x1 ∧ x1 < s 3) (h1 : s (174 + x1) ≠ 0) (hYd : M Y 6 = 1) :
    Ok 2 150 0 [aR Y, aI x1] [] g M (fun o g1 M1 => o = .inr 11 ∧ g1 = am_alloc g 30 0 6 ∧ M1 = M) := by
  have yq0 : 0 ≤ q 0 ∧ q 0 ≤ 4 := Q_0 hQ
  have yq1 : 0 ≤ q 1 ∧ q 1 ≤ 6 := Q_1 hQ
  have ys3 : 0 ≤ s 3 ∧ s 3 ≤ 80 := V_3 hV
  have ys4 : 0 ≤ s 4 ∧ s 4 ≤ 16 := V_4 hV
  refine ok_aloadn (pc' := 1) i150_0 rfl rfl <| ok_cc i150_1 rfl (cl_v o150 m0_132 na99 rfl rfl (bt rfl) (bt rfl) rfl (by rw [ShYard_k0 hSY, o99])) ln99 (pd99 (aR Y)) <| ok_aloadn (pc' := 1) i99_0 rfl rfl <| ok_getfi (v := 1) (pc' := 4) i99_1 o99 gi0_268 (ShYard_k0 hSY) hYd rfl <| ok_kz1 (pc1 := 18) (pc2 := 7) i99_4 (by decide) rfl rfl <| ok_vret i99_18 rt99 <| kt_0 (pc' := 4) rfl <| ok_aloadn (pc' := 5) i150_4 rfl rfl <| ?_
  refine ok_iloadn (pc' := 6) i150_5 rfl rfl <| ok_cc i150_6 rfl (cl_v o150 m0_169 na103 rfl rfl (bt rfl) (bt rfl) rfl (by rw [ShYard_k0 hSY, o103])) ln103 (pd103 (aR Y) (aI x1)) <| ok_iloadn (pc' := 1) i103_0 rfl rfl <| ?_
  refine ok_zlt (pc1 := 15) (pc2 := 4) i103_1 (by omega) rfl rfl (fun h9 => by exfalso; omega) (fun h1 => ?_)
  refine ok_iloadn (pc' := 5) i103_4 rfl rfl <| ok_aloadn (pc' := 6) i103_5 rfl rfl <| ok_getfr (r := A) (pc' := 9) i103_6 o103 gr0_39 (ShYard_k0 hSY) (ShYard_r8 hSY) rfl <| ok_getfi (v := (s 3)) (pc' := 12) i103_9 o103 gi0_129 (ShState_k0 hSA) (RepS_f2 hRA) rfl <| ?_
  refine ok_clt (pc1 := 26) (pc2 := 15) i103_12 (by omega) rfl rfl (fun h2 => ?_) (fun h9 => by exfalso; omega)
  refine ok_vret i103_26 rt103 <| kt_0 (pc' := 9) rfl <| ok_aloadn (pc' := 10) i150_9 rfl rfl <| ok_getfr (r := A) (pc' := 13) i150_10 o150 gr0_39 (ShYard_k0 hSY) (ShYard_r8 hSY) rfl <| ok_getfr (r := (A + 2)) (pc' := 16) i150_13 o150 gr0_176 (ShState_k0 hSA) (ShState_r3 hSA) rfl <| ok_iconst (pc' := 17) i150_16 rfl <| ok_aaload (r := (A + 5)) (pc' := 18) i150_17 (ShState_k2 hSA) (by decide) (ShState_l2 hSA) (by decide) (ShState_e2_2 hSA) rfl <| ok_iloadn (pc' := 19) i150_18 rfl rfl <| ?_
  have z1 : 0 ≤ s (174 + x1) ∧ s (174 + x1) ≤ 2 := V_d2 hV (i := x1) (by omega) (by omega)
  refine ok_iaload (v := (s (174 + x1))) (pc' := 20) i150_19 (ShState_k5 hSA) (by decide) (ShState_l5 hSA) (by omega) (RepS_5 hRA (by omega) (by omega)) rfl <| ?_
  refine ok_zeq (pc1 := 34) (pc2 := 23) i150_20 (by omega) rfl rfl (fun h9 => by exfalso; omega) (fun h3 => ?_)
  refine ok_throw th150_23 (bt rfl) <| ?_
  exact ⟨rfl, rfl, rfl⟩
theorem y151_x0 {g : AG} {M : AM} {Y P A V T K H X : Nat} {q s : Int → Int} {b : Int} (hSY : ShYard g Y P A V T K H X) (hSV : ShWorks g V P A) (hSP : ShPlan g P) (hSA : ShState g A) (hRP : RepP M P q) (hRA : RepS M A s) (hQ : ValQ q) (hV : Val b q s) (hYd : M Y 6 = 1) :
    Ok 2 151 0 [aR Y, aI 0, aI 10, aU] [] g M (fun o g1 M1 => o = .inr 11 ∧ g1 = am_alloc g 30 0 6 ∧ M1 = M) := by
  have yq0 : 0 ≤ q 0 ∧ q 0 ≤ 4 := Q_0 hQ
  have yq1 : 0 ≤ q 1 ∧ q 1 ≤ 6 := Q_1 hQ
  have ys3 : 0 ≤ s 3 ∧ s 3 ≤ 80 := V_3 hV
  have ys4 : 0 ≤ s 4 ∧ s 4 ≤ 16 := V_4 hV
  refine ok_aloadn (pc' := 1) i151_0 rfl rfl <| ok_cc i151_1 rfl (cl_v o151 m0_132 na99 rfl rfl (bt rfl) (bt rfl) rfl (by rw [ShYard_k0 hSY, o99])) ln99 (pd99 (aR Y)) <| ok_aloadn (pc' := 1) i99_0 rfl rfl <| ok_getfi (v := 1) (pc' := 4) i99_1 o99 gi0_268 (ShYard_k0 hSY) hYd rfl <| ok_kz1 (pc1 := 18) (pc2 := 7) i99_4 (by decide) rfl rfl <| ok_vret i99_18 rt99 <| kt_0 (pc' := 4) rfl <| ok_iloadn (pc' := 5) i151_4 rfl rfl <| ?_
  refine ok_iconst (pc' := 6) i151_5 rfl <| ok_iconst (pc' := 7) i151_6 rfl <| ok_cc i151_7 rfl (cl_s o151 m0_172 na104 rfl rfl (bt rfl) (bt rfl) rfl) ln104 (pd104 (aI 0) (aI 0) (aI 1)) <| ok_iloadn (pc' := 1) i104_0 rfl rfl <| ok_iloadn (pc' := 2) i104_1 rfl rfl <| ok_kc0 (pc1 := 10) (pc2 := 5) i104_2 (by decide) rfl rfl <| ok_iloadn (pc' := 6) i104_5 rfl rfl <| ok_iloadn (pc' := 7) i104_6 rfl rfl <| ?_
  refine ok_kc1 (pc1 := 21) (pc2 := 10) i104_7 (by decide) rfl rfl <| ok_vret i104_21 rt104 <| kt_0 (pc' := 10) rfl <| ok_iloadn (pc' := 11) i151_10 rfl rfl <| ok_kz0 (pc1 := 24) (pc2 := 14) i151_11 (by decide) rfl rfl <| ok_iloadn (pc' := 15) i151_14 rfl rfl <| ok_iconst (pc' := 16) i151_15 rfl <| ok_bipush (v := 9) (pc' := 18) i151_16 rfl rfl <| ?_
  refine ok_cc i151_18 rfl (cl_s o151 m0_172 na104 rfl rfl (bt rfl) (bt rfl) rfl) ln104 (pd104 (aI 10) (aI 0) (aI 9)) <| ok_iloadn (pc' := 1) i104_0 rfl rfl <| ok_iloadn (pc' := 2) i104_1 rfl rfl <| ok_kc0 (pc1 := 10) (pc2 := 5) i104_2 (by decide) rfl rfl <| ok_iloadn (pc' := 6) i104_5 rfl rfl <| ok_iloadn (pc' := 7) i104_6 rfl rfl <| ok_kc0 (pc1 := 21) (pc2 := 10) i104_7 (by decide) rfl rfl <| ok_throw th104_10 (bt rfl) <| ?_
  refine kt_x hh151 <| ?_
  exact ⟨rfl, rfl, rfl⟩
theorem y151_x1 {g : AG} {M : AM} {Y P A V T K H X : Nat} {q s : Int → Int} {b : Int} (hSY : ShYard g Y P A V T K H X) (hSV : ShWorks g V P A) (hSP : ShPlan g P) (hSA : ShState g A) (hRP : RepP M P q) (hRA : RepS M A s) (hQ : ValQ q) (hV : Val b q s) (hYd : M Y 6 = 1) :
    Ok 2 151 0 [aR Y, aI 1, aI 0, aU] [] g M (fun o g1 M1 => o = .inr 11 ∧ g1 = am_alloc g 30 0 6 ∧ M1 = M) := by
  have yq0 : 0 ≤ q 0 ∧ q 0 ≤ 4 := Q_0 hQ
  have yq1 : 0 ≤ q 1 ∧ q 1 ≤ 6 := Q_1 hQ
  have ys3 : 0 ≤ s 3 ∧ s 3 ≤ 80 := V_3 hV
  have ys4 : 0 ≤ s 4 ∧ s 4 ≤ 16 := V_4 hV
  refine ok_aloadn (pc' := 1) i151_0 rfl rfl <| ok_cc i151_1 rfl (cl_v o151 m0_132 na99 rfl rfl (bt rfl) (bt rfl) rfl (by rw [ShYard_k0 hSY, o99])) ln99 (pd99 (aR Y)) <| ok_aloadn (pc' := 1) i99_0 rfl rfl <| ok_getfi (v := 1) (pc' := 4) i99_1 o99 gi0_268 (ShYard_k0 hSY) hYd rfl <| ok_kz1 (pc1 := 18) (pc2 := 7) i99_4 (by decide) rfl rfl <| ok_vret i99_18 rt99 <| kt_0 (pc' := 4) rfl <| ok_iloadn (pc' := 5) i151_4 rfl rfl <| ?_
  refine ok_iconst (pc' := 6) i151_5 rfl <| ok_iconst (pc' := 7) i151_6 rfl <| ok_cc i151_7 rfl (cl_s o151 m0_172 na104 rfl rfl (bt rfl) (bt rfl) rfl) ln104 (pd104 (aI 1) (aI 0) (aI 1)) <| ok_iloadn (pc' := 1) i104_0 rfl rfl <| ok_iloadn (pc' := 2) i104_1 rfl rfl <| ok_kc0 (pc1 := 10) (pc2 := 5) i104_2 (by decide) rfl rfl <| ok_iloadn (pc' := 6) i104_5 rfl rfl <| ok_iloadn (pc' := 7) i104_6 rfl rfl <| ?_
  refine ok_kc1 (pc1 := 21) (pc2 := 10) i104_7 (by decide) rfl rfl <| ok_vret i104_21 rt104 <| kt_0 (pc' := 10) rfl <| ok_iloadn (pc' := 11) i151_10 rfl rfl <| ok_kz1 (pc1 := 24) (pc2 := 14) i151_11 (by decide) rfl rfl <| ok_iloadn (pc' := 25) i151_24 rfl rfl <| ok_iconst (pc' := 26) i151_25 rfl <| ok_sipush (v := 200) (pc' := 29) i151_26 rfl rfl <| ?_
  refine ok_cc i151_29 rfl (cl_s o151 m0_172 na104 rfl rfl (bt rfl) (bt rfl) rfl) ln104 (pd104 (aI 0) (aI 1) (aI 200)) <| ok_iloadn (pc' := 1) i104_0 rfl rfl <| ok_iloadn (pc' := 2) i104_1 rfl rfl <| ok_kc1 (pc1 := 10) (pc2 := 5) i104_2 (by decide) rfl rfl <| ok_throw th104_10 (bt rfl) <| kt_x hh151 <| ?_
  exact ⟨rfl, rfl, rfl⟩
theorem y151_x2 {g : AG} {M : AM} {Y P A V T K H X : Nat} {q s : Int → Int} {b : Int} (hSY : ShYard g Y P A V T K H X) (hSV : ShWorks g V P A) (hSP : ShPlan g P) (hSA : ShState g A) (hRP : RepP M P q) (hRA : RepS M A s) (hQ : ValQ q) (hV : Val b q s) (hYd : M Y 6 = 1) :
    Ok 2 151 0 [aR Y, aI 2, aI 1, aU] [] g M (fun o g1 M1 => o = .inr 11 ∧ g1 = am_alloc g 30 0 6 ∧ M1 = M) := by
  have yq0 : 0 ≤ q 0 ∧ q 0 ≤ 4 := Q_0 hQ
  have yq1 : 0 ≤ q 1 ∧ q 1 ≤ 6 := Q_1 hQ
  have ys3 : 0 ≤ s 3 ∧ s 3 ≤ 80 := V_3 hV
  have ys4 : 0 ≤ s 4 ∧ s 4 ≤ 16 := V_4 hV
  refine ok_aloadn (pc' := 1) i151_0 rfl rfl <| ok_cc i151_1 rfl (cl_v o151 m0_132 na99 rfl rfl (bt rfl) (bt rfl) rfl (by rw [ShYard_k0 hSY, o99])) ln99 (pd99 (aR Y)) <| ok_aloadn (pc' := 1) i99_0 rfl rfl <| ok_getfi (v := 1) (pc' := 4) i99_1 o99 gi0_268 (ShYard_k0 hSY) hYd rfl <| ok_kz1 (pc1 := 18) (pc2 := 7) i99_4 (by decide) rfl rfl <| ok_vret i99_18 rt99 <| kt_0 (pc' := 4) rfl <| ok_iloadn (pc' := 5) i151_4 rfl rfl <| ?_
  refine ok_iconst (pc' := 6) i151_5 rfl <| ok_iconst (pc' := 7) i151_6 rfl <| ok_cc i151_7 rfl (cl_s o151 m0_172 na104 rfl rfl (bt rfl) (bt rfl) rfl) ln104 (pd104 (aI 2) (aI 0) (aI 1)) <| ok_iloadn (pc' := 1) i104_0 rfl rfl <| ok_iloadn (pc' := 2) i104_1 rfl rfl <| ok_kc0 (pc1 := 10) (pc2 := 5) i104_2 (by decide) rfl rfl <| ok_iloadn (pc' := 6) i104_5 rfl rfl <| ok_iloadn (pc' := 7) i104_6 rfl rfl <| ?_
  refine ok_kc0 (pc1 := 21) (pc2 := 10) i104_7 (by decide) rfl rfl <| ok_throw th104_10 (bt rfl) <| kt_x hh151 <| ?_
  exact ⟨rfl, rfl, rfl⟩
