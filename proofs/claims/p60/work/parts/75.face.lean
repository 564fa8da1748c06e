/-! THE FACE: sums (by program, wip/p60/gen) -/
theorem rt118 : am_rt 118 = some .int := by decide +kernel
theorem rt119 : am_rt 119 = some .int := by decide +kernel
theorem rt121 : am_rt 121 = some .int := by decide +kernel
theorem rt125 : am_rt 125 = some .int := by decide +kernel
theorem o142 : am_oc 142 = 0 := by decide +kernel
theorem gr0_300 : am_gfr 0 300 6 0 = true := by decide +kernel
theorem rt142 : am_rt 142 = some .int := by decide +kernel
theorem th142_15 : am_thk 142 15 10 = true := by decide +kernel
theorem y118 {g : AG} {M : AM} {Y P A V T K H X : Nat} {q s : Int → Int} {b : Int} (hSY : ShYard g Y P A V T K H X) (hSV : ShWorks g V P A) (hSP : ShPlan g P) (hSA : ShState g A) (hRP : RepP M P q) (hRA : RepS M A s) (hQ : ValQ q) (hV : Val b q s) (hYd : M Y 6 = 1) :
    Ok 1 118 0 [aR Y, aU, aU] [] g M (Rt (some (aI (itv (f215_13 s) 0 0 ((s 3).toNat)))) g (fun M9 => M9 = M)) := by
  have yq0 : 0 ≤ q 0 ∧ q 0 ≤ 4 := Q_0 hQ
  have yq1 : 0 ≤ q 1 ∧ q 1 ≤ 6 := Q_1 hQ
  have ys3 : 0 ≤ s 3 ∧ s 3 ≤ 80 := V_3 hV
  have ys4 : 0 ≤ s 4 ∧ s 4 ≤ 16 := V_4 hV
  refine ok_aloadn (pc' := 1) i118_0 rfl rfl <| ok_cc i118_1 rfl (cl_v o118 m0_132 na99 rfl rfl (bt rfl) (bt rfl) rfl (by rw [ShYard_k0 hSY, o99])) ln99 (pd99 (aR Y)) <| ok_aloadn (pc' := 1) i99_0 rfl rfl <| ok_getfi (v := 1) (pc' := 4) i99_1 o99 gi0_268 (ShYard_k0 hSY) hYd rfl <| ok_kz1 (pc1 := 18) (pc2 := 7) i99_4 (by decide) rfl rfl <| ok_vret i99_18 rt99 <| kt_0 (pc' := 4) rfl <| ok_iconst (pc' := 5) i118_4 rfl <| ?_
  refine ok_istoren (pc' := 6) (ls' := [aR Y, aI 0, aU]) i118_5 (bt rfl) rfl rfl <| ok_iconst (pc' := 7) i118_6 rfl <| ok_istoren (pc' := 8) (ls' := [aR Y, aI 0, aI 0]) i118_7 (bt rfl) rfl rfl <| ?_
  refine w118_8 (x0 := 0) hSY hSV hSP hSA hRP hRA hQ hV ?_
  refine ok_iloadn (pc' := 40) i118_39 rfl rfl <| ok_ireti i118_40 rt118 <| ?_
  exact ⟨rfl, rfl, rfl⟩
theorem y119 {g : AG} {M : AM} {Y P A V T K H X : Nat} {q s : Int → Int} {b : Int} (hSY : ShYard g Y P A V T K H X) (hSV : ShWorks g V P A) (hSP : ShPlan g P) (hSA : ShState g A) (hRP : RepP M P q) (hRA : RepS M A s) (hQ : ValQ q) (hV : Val b q s) (hYd : M Y 6 = 1) :
    Ok 1 119 0 [aR Y, aU, aU] [] g M (Rt (some (aI (itv (f216_13 s q) 0 0 ((s 3).toNat)))) g (fun M9 => M9 = M)) := by
  have yq0 : 0 ≤ q 0 ∧ q 0 ≤ 4 := Q_0 hQ
  have yq1 : 0 ≤ q 1 ∧ q 1 ≤ 6 := Q_1 hQ
  have ys3 : 0 ≤ s 3 ∧ s 3 ≤ 80 := V_3 hV
  have ys4 : 0 ≤ s 4 ∧ s 4 ≤ 16 := V_4 hV
  refine ok_aloadn (pc' := 1) i119_0 rfl rfl <| ok_cc i119_1 rfl (cl_v o119 m0_132 na99 rfl rfl (bt rfl) (bt rfl) rfl (by rw [ShYard_k0 hSY, o99])) ln99 (pd99 (aR Y)) <| ok_aloadn (pc' := 1) i99_0 rfl rfl <| ok_getfi (v := 1) (pc' := 4) i99_1 o99 gi0_268 (ShYard_k0 hSY) hYd rfl <| ok_kz1 (pc1 := 18) (pc2 := 7) i99_4 (by decide) rfl rfl <| ok_vret i99_18 rt99 <| kt_0 (pc' := 4) rfl <| ok_iconst (pc' := 5) i119_4 rfl <| ?_
  refine ok_istoren (pc' := 6) (ls' := [aR Y, aI 0, aU]) i119_5 (bt rfl) rfl rfl <| ok_iconst (pc' := 7) i119_6 rfl <| ok_istoren (pc' := 8) (ls' := [aR Y, aI 0, aI 0]) i119_7 (bt rfl) rfl rfl <| ?_
  refine w119_8 (x0 := 0) hSY hSV hSP hSA hRP hRA hQ hV ?_
  refine ok_iloadn (pc' := 49) i119_48 rfl rfl <| ok_ireti i119_49 rt119 <| ?_
  exact ⟨rfl, rfl, rfl⟩
theorem y121 {g : AG} {M : AM} {Y P A V T K H X : Nat} {q s : Int → Int} {b : Int} (hSY : ShYard g Y P A V T K H X) (hSV : ShWorks g V P A) (hSP : ShPlan g P) (hSA : ShState g A) (hRP : RepP M P q) (hRA : RepS M A s) (hQ : ValQ q) (hV : Val b q s) (hYd : M Y 6 = 1) :
    Ok 1 121 0 [aR Y, aU, aU] [] g M (Rt (some (aI (itv (f219_13 s) 0 0 ((s 4).toNat)))) g (fun M9 => M9 = M)) := by
  have yq0 : 0 ≤ q 0 ∧ q 0 ≤ 4 := Q_0 hQ
  have yq1 : 0 ≤ q 1 ∧ q 1 ≤ 6 := Q_1 hQ
  have ys3 : 0 ≤ s 3 ∧ s 3 ≤ 80 := V_3 hV
  have ys4 : 0 ≤ s 4 ∧ s 4 ≤ 16 := V_4 hV
  refine ok_aloadn (pc' := 1) i121_0 rfl rfl <| ok_cc i121_1 rfl (cl_v o121 m0_132 na99 rfl rfl (bt rfl) (bt rfl) rfl (by rw [ShYard_k0 hSY, o99])) ln99 (pd99 (aR Y)) <| ok_aloadn (pc' := 1) i99_0 rfl rfl <| ok_getfi (v := 1) (pc' := 4) i99_1 o99 gi0_268 (ShYard_k0 hSY) hYd rfl <| ok_kz1 (pc1 := 18) (pc2 := 7) i99_4 (by decide) rfl rfl <| ok_vret i99_18 rt99 <| kt_0 (pc' := 4) rfl <| ok_iconst (pc' := 5) i121_4 rfl <| ?_
  refine ok_istoren (pc' := 6) (ls' := [aR Y, aI 0, aU]) i121_5 (bt rfl) rfl rfl <| ok_iconst (pc' := 7) i121_6 rfl <| ok_istoren (pc' := 8) (ls' := [aR Y, aI 0, aI 0]) i121_7 (bt rfl) rfl rfl <| ?_
  refine w121_8 (x0 := 0) hSY hSV hSP hSA hRP hRA hQ hV ?_
  refine ok_iloadn (pc' := 61) i121_60 rfl rfl <| ok_ireti i121_61 rt121 <| ?_
  exact ⟨rfl, rfl, rfl⟩
theorem y125 {g : AG} {M : AM} {Y P A V T K H X : Nat} {q s : Int → Int} {b : Int} (hSY : ShYard g Y P A V T K H X) (hSV : ShWorks g V P A) (hSP : ShPlan g P) (hSA : ShState g A) (hRP : RepP M P q) (hRA : RepS M A s) (hQ : ValQ q) (hV : Val b q s) (hYd : M Y 6 = 1) :
    Ok 2 125 0 [aR Y, aU, aU] [] g M (Rt (some (aI (itv (f125_8 q s) 0 0 ((q 1).toNat)))) g (fun M9 => M9 = M)) := by
  have yq0 : 0 ≤ q 0 ∧ q 0 ≤ 4 := Q_0 hQ
  have yq1 : 0 ≤ q 1 ∧ q 1 ≤ 6 := Q_1 hQ
  have ys3 : 0 ≤ s 3 ∧ s 3 ≤ 80 := V_3 hV
  have ys4 : 0 ≤ s 4 ∧ s 4 ≤ 16 := V_4 hV
  refine ok_aloadn (pc' := 1) i125_0 rfl rfl <| ok_cc i125_1 rfl (cl_v o125 m0_132 na99 rfl rfl (bt rfl) (bt rfl) rfl (by rw [ShYard_k0 hSY, o99])) ln99 (pd99 (aR Y)) <| ok_aloadn (pc' := 1) i99_0 rfl rfl <| ok_getfi (v := 1) (pc' := 4) i99_1 o99 gi0_268 (ShYard_k0 hSY) hYd rfl <| ok_kz1 (pc1 := 18) (pc2 := 7) i99_4 (by decide) rfl rfl <| ok_vret i99_18 rt99 <| kt_0 (pc' := 4) rfl <| ok_iconst (pc' := 5) i125_4 rfl <| ?_
  refine ok_istoren (pc' := 6) (ls' := [aR Y, aI 0, aU]) i125_5 (bt rfl) rfl rfl <| ok_iconst (pc' := 7) i125_6 rfl <| ok_istoren (pc' := 8) (ls' := [aR Y, aI 0, aI 0]) i125_7 (bt rfl) rfl rfl <| ?_
  refine w125_8 (x0 := 0) hSY hSV hSP hSA hRP hRA hQ hV ?_
  refine ok_iloadn (pc' := 43) i125_42 rfl rfl <| ok_ireti i125_43 rt125 <| ?_
  exact ⟨rfl, rfl, rfl⟩
theorem y142 {g : AG} {M : AM} {Y P A V T K H X : Nat} {x1 n : Int} (hSY : ShYard g Y P A V T K H X) (hSX : ShText g X) (h0 : 0 ≤ x1 ∧ x1 < n) (h1 : n ≤ 320) (hYd : M Y 6 = 1) (hX1 : M X 1 = n) :
    Ok 0 142 0 [aR Y, aI x1] [] g M (Rt (some (aI (M (X + 1) x1))) g (fun M9 => M9 = M)) := by
  refine ok_iloadn (pc' := 1) i142_0 rfl rfl <| ?_
  refine ok_zlt (pc1 := 15) (pc2 := 4) i142_1 (by omega) rfl rfl (fun h9 => by exfalso; omega) (fun h1 => ?_)
  refine ok_iloadn (pc' := 5) i142_4 rfl rfl <| ok_aloadn (pc' := 6) i142_5 rfl rfl <| ok_getfr (r := X) (pc' := 9) i142_6 o142 gr0_86 (ShYard_k0 hSY) (ShYard_r15 hSY) rfl <| ok_getfi (v := n) (pc' := 12) i142_9 o142 gi0_280 (ShText_k0 hSX) hX1 rfl <| ?_
  refine ok_clt (pc1 := 26) (pc2 := 15) i142_12 (by omega) rfl rfl (fun h2 => ?_) (fun h9 => by exfalso; omega)
  refine ok_aloadn (pc' := 27) i142_26 rfl rfl <| ok_getfr (r := X) (pc' := 30) i142_27 o142 gr0_86 (ShYard_k0 hSY) (ShYard_r15 hSY) rfl <| ok_getfr (r := (X + 1)) (pc' := 33) i142_30 o142 gr0_300 (ShText_k0 hSX) (ShText_r0 hSX) rfl <| ok_iloadn (pc' := 34) i142_33 rfl rfl <| ok_baload (v := (M (X + 1) x1)) (pc' := 35) i142_34 (ShText_k1 hSX) (by decide) (ShText_l1 hSX) (by omega) rfl rfl <| ok_ireti i142_35 rt142 <| ?_
  exact ⟨rfl, rfl, rfl⟩
theorem y142_x {g : AG} {M : AM} {Y P A V T K H X : Nat} {x1 n : Int} (hSY : ShYard g Y P A V T K H X) (hSX : ShText g X) (h0 : x1 = n) (h1 : 0 ≤ n ∧ n ≤ 320) (hYd : M Y 6 = 1) (hX1 : M X 1 = n) :
    Ok 0 142 0 [aR Y, aI x1] [] g M (fun o g1 M1 => o = .inr 10 ∧ g1 = am_alloc g 30 0 6 ∧ M1 = M) := by
  refine ok_iloadn (pc' := 1) i142_0 rfl rfl <| ?_
  refine ok_zlt (pc1 := 15) (pc2 := 4) i142_1 (by omega) rfl rfl (fun h9 => by exfalso; omega) (fun h1 => ?_)
  refine ok_iloadn (pc' := 5) i142_4 rfl rfl <| ok_aloadn (pc' := 6) i142_5 rfl rfl <| ok_getfr (r := X) (pc' := 9) i142_6 o142 gr0_86 (ShYard_k0 hSY) (ShYard_r15 hSY) rfl <| ok_getfi (v := n) (pc' := 12) i142_9 o142 gi0_280 (ShText_k0 hSX) hX1 rfl <| ?_
  refine ok_clt (pc1 := 26) (pc2 := 15) i142_12 (by omega) rfl rfl (fun h9 => by exfalso; omega) (fun h2 => ?_)
  refine ok_throw th142_15 (bt rfl) <| ?_
  exact ⟨rfl, rfl, rfl⟩
