/-! SUMS (by program, wip/gen) -/
theorem gr0_39 : am_gfr 0 39 0 8 = true := by decide +kernel
theorem o118 : am_oc 118 = 0 := by decide +kernel
theorem gi0_129 : am_gfi 0 129 5 2 = true := by decide +kernel
theorem gr0_176 : am_gfr 0 176 5 3 = true := by decide +kernel
theorem o119 : am_oc 119 = 0 := by decide +kernel
theorem gr0_48 : am_gfr 0 48 0 9 = true := by decide +kernel
theorem m0_223 : am_mlk 0 223 0 36 = true := by decide +kernel
theorem o121 : am_oc 121 = 0 := by decide +kernel
theorem gi0_138 : am_gfi 0 138 5 4 = true := by decide +kernel
theorem gr0_183 : am_gfr 0 183 5 5 = true := by decide +kernel
theorem gi0_200 : am_gfi 0 200 5 0 = true := by decide +kernel
theorem gr0_32 : am_gfr 0 32 0 7 = true := by decide +kernel
theorem o125 : am_oc 125 = 0 := by decide +kernel
theorem gi0_141 : am_gfi 0 141 4 3 = true := by decide +kernel
theorem m0_235 : am_mlk 0 235 0 39 = true := by decide +kernel
def f215_13 (s : Int → Int) (x2 x1 : Int) : Int := (x1 + (s (94 + x2)))
def f216_13 (s q : Int → Int) (x2 x1 : Int) : Int := (x1 + ((s (94 + x2)) * (q (6 + (s (14 + x2))))))
def f219_13 (s : Int → Int) (x2 x1 : Int) : Int := (if (s 0) ≤ (s ((414 + (8 * x2)) + 3)) then x1 else (x1 + (s ((414 + (8 * x2)) + 4))))
def f226_13 (s q : Int → Int) (x2 x1 : Int) : Int := (if (r39 q s x2) = 0 then (am_or x1 0) else (am_or x1 (am_shl 1 x2)))
def f187_102 (s : Int → Int) (x3 x2 : Int) : Int := (if (s (174 + x3)) ≠ 0 then x2 else (x2 + 1))
def f187_133 (s : Int → Int) (x3 x2 : Int) : Int := (if (s ((414 + (8 * x3)) + 4)) ≤ 0 then x2 else (x2 + 1))
def f187_169 (s : Int → Int) (x3 x2 : Int) : Int := (x2 + (s (542 + x3)))
theorem w118_8 {g : AG} {M : AM} {Y P A V T K H X : Nat} {q s : Int → Int} {b : Int} {x0 : Int} {d : Nat} {Q : AO → AG → AM → Prop} (hSY : ShYard g Y P A V T K H X) (hSV : ShWorks g V P A) (hSP : ShPlan g P) (hSA : ShState g A) (hRP : RepP M P q) (hRA : RepS M A s) (hQ : ValQ q) (hV : Val b q s)  (K : Ok (d + 1) 118 39 [aR Y, aI (itv (f215_13 s) x0 0 ((s 3).toNat)), aI (s 3)] [] g M Q) :
    Ok (d + 1) 118 8 [aR Y, aI x0, aI 0] [] g M Q := by
  have yq0 : 0 ≤ q 0 ∧ q 0 ≤ 4 := Q_0 hQ
  have yq1 : 0 ≤ q 1 ∧ q 1 ≤ 6 := Q_1 hQ
  have ys3 : 0 ≤ s 3 ∧ s 3 ≤ 80 := V_3 hV
  have ys4 : 0 ≤ s 4 ∧ s 4 ≤ 16 := V_4 hV
  refine ok_for (lo := 0) (n := (s 3).toNat) (f := (f215_13 s)) (a0 := x0) (fun x2 x1 ls M9 => M9 = M ∧ (-1 ≤ x2) ∧ ls = [aR Y, aI x1, aI x2]) ?_ ?_ _ _ ⟨rfl, by omega, rfl⟩
  · rintro x2 x1 ls M9 g1 g2 ⟨hM, hinv, rfl⟩ ih
    rw [hM]
    have g3 : x2 < (s 3) := by omega
    refine ok_iloadn (pc' := 9) i118_8 rfl rfl <| ok_aloadn (pc' := 10) i118_9 rfl rfl <| ok_getfr (r := A) (pc' := 13) i118_10 o118 gr0_39 (ShYard_k0 hSY) (ShYard_r8 hSY) rfl <| ok_getfi (v := (s 3)) (pc' := 16) i118_13 o118 gi0_129 (ShState_k0 hSA) (RepS_f2 hRA) rfl <| ?_
    refine ok_cge (pc1 := 39) (pc2 := 19) i118_16 (by omega) rfl rfl (fun h9 => by exfalso; omega) (fun h1 => ?_)
    refine ok_iloadn (pc' := 20) i118_19 rfl rfl <| ok_aloadn (pc' := 21) i118_20 rfl rfl <| ok_getfr (r := A) (pc' := 24) i118_21 o118 gr0_39 (ShYard_k0 hSY) (ShYard_r8 hSY) rfl <| ok_getfr (r := (A + 2)) (pc' := 27) i118_24 o118 gr0_176 (ShState_k0 hSA) (ShState_r3 hSA) rfl <| ok_iconst (pc' := 28) i118_27 rfl <| ok_aaload (r := (A + 4)) (pc' := 29) i118_28 (ShState_k2 hSA) (by decide) (ShState_l2 hSA) (by decide) (ShState_e2_1 hSA) rfl <| ok_iloadn (pc' := 30) i118_29 rfl rfl <| ?_
    have z41 : 0 ≤ s (94 + x2) ∧ s (94 + x2) ≤ 200 := V_d1 hV (i := x2) (by omega) (by omega)
    refine ok_iaload (v := (s (94 + x2))) (pc' := 31) i118_30 (ShState_k4 hSA) (by decide) (ShState_l4 hSA) (by omega) (RepS_4 hRA (by omega) (by omega)) rfl <| ok_iadd (v := (x1 + (s (94 + x2)))) (pc' := 32) i118_31 rfl rfl <| ok_istoren (pc' := 33) (ls' := [aR Y, aI (x1 + (s (94 + x2))), aI x2]) i118_32 (bt rfl) rfl rfl <| ok_iinc (pc' := 36) (v := (x2 + 1)) (ls' := [aR Y, aI (x1 + (s (94 + x2))), aI (x2 + 1)]) i118_33 rfl rfl rfl rfl <| ok_goto (pc' := 8) i118_36 rfl <| ?_
    have e : f215_13 s x2 x1 = (x1 + (s (94 + x2))) := by unfold f215_13; rfl
    exact ih _ _ ⟨rfl, by first | omega | (rw [e]; omega), by rw [e]⟩
  · rintro x2 x1 ls M9 g1 g2 ⟨hM, hinv, rfl⟩
    rw [hM]
    have g3 : x2 = (s 3) := by omega
    refine ok_iloadn (pc' := 9) i118_8 rfl rfl <| ok_aloadn (pc' := 10) i118_9 rfl rfl <| ok_getfr (r := A) (pc' := 13) i118_10 o118 gr0_39 (ShYard_k0 hSY) (ShYard_r8 hSY) rfl <| ok_getfi (v := (s 3)) (pc' := 16) i118_13 o118 gi0_129 (ShState_k0 hSA) (RepS_f2 hRA) rfl <| ?_
    refine ok_cge (pc1 := 39) (pc2 := 19) i118_16 (by omega) rfl rfl (fun h1 => ?_) (fun h9 => by exfalso; omega)
    subst g3
    rw [← g2]
    exact K
theorem w119_8 {g : AG} {M : AM} {Y P A V T K H X : Nat} {q s : Int → Int} {b : Int} {x0 : Int} {d : Nat} {Q : AO → AG → AM → Prop} (hSY : ShYard g Y P A V T K H X) (hSV : ShWorks g V P A) (hSP : ShPlan g P) (hSA : ShState g A) (hRP : RepP M P q) (hRA : RepS M A s) (hQ : ValQ q) (hV : Val b q s)  (K : Ok (d + 1) 119 48 [aR Y, aI (itv (f216_13 s q) x0 0 ((s 3).toNat)), aI (s 3)] [] g M Q) :
    Ok (d + 1) 119 8 [aR Y, aI x0, aI 0] [] g M Q := by
  have yq0 : 0 ≤ q 0 ∧ q 0 ≤ 4 := Q_0 hQ
  have yq1 : 0 ≤ q 1 ∧ q 1 ≤ 6 := Q_1 hQ
  have ys3 : 0 ≤ s 3 ∧ s 3 ≤ 80 := V_3 hV
  have ys4 : 0 ≤ s 4 ∧ s 4 ≤ 16 := V_4 hV
  refine ok_for (lo := 0) (n := (s 3).toNat) (f := (f216_13 s q)) (a0 := x0) (fun x2 x1 ls M9 => M9 = M ∧ (-1 ≤ x2) ∧ ls = [aR Y, aI x1, aI x2]) ?_ ?_ _ _ ⟨rfl, by omega, rfl⟩
  · rintro x2 x1 ls M9 g1 g2 ⟨hM, hinv, rfl⟩ ih
    rw [hM]
    have g3 : x2 < (s 3) := by omega
    refine ok_iloadn (pc' := 9) i119_8 rfl rfl <| ok_aloadn (pc' := 10) i119_9 rfl rfl <| ok_getfr (r := A) (pc' := 13) i119_10 o119 gr0_39 (ShYard_k0 hSY) (ShYard_r8 hSY) rfl <| ok_getfi (v := (s 3)) (pc' := 16) i119_13 o119 gi0_129 (ShState_k0 hSA) (RepS_f2 hRA) rfl <| ?_
    refine ok_cge (pc1 := 48) (pc2 := 19) i119_16 (by omega) rfl rfl (fun h9 => by exfalso; omega) (fun h1 => ?_)
    refine ok_iloadn (pc' := 20) i119_19 rfl rfl <| ok_aloadn (pc' := 21) i119_20 rfl rfl <| ok_getfr (r := A) (pc' := 24) i119_21 o119 gr0_39 (ShYard_k0 hSY) (ShYard_r8 hSY) rfl <| ok_getfr (r := (A + 2)) (pc' := 27) i119_24 o119 gr0_176 (ShState_k0 hSA) (ShState_r3 hSA) rfl <| ok_iconst (pc' := 28) i119_27 rfl <| ok_aaload (r := (A + 4)) (pc' := 29) i119_28 (ShState_k2 hSA) (by decide) (ShState_l2 hSA) (by decide) (ShState_e2_1 hSA) rfl <| ok_iloadn (pc' := 30) i119_29 rfl rfl <| ?_
    have z41 : 0 ≤ s (94 + x2) ∧ s (94 + x2) ≤ 200 := V_d1 hV (i := x2) (by omega) (by omega)
    refine ok_iaload (v := (s (94 + x2))) (pc' := 31) i119_30 (ShState_k4 hSA) (by decide) (ShState_l4 hSA) (by omega) (RepS_4 hRA (by omega) (by omega)) rfl <| ok_aloadn (pc' := 32) i119_31 rfl rfl <| ok_getfr (r := V) (pc' := 35) i119_32 o119 gr0_48 (ShYard_k0 hSY) (ShYard_r9 hSY) rfl <| ok_iloadn (pc' := 36) i119_35 rfl rfl <| ok_cc i119_36 rfl (cl_v o119 m0_223 na36 rfl rfl (bt rfl) (bt rfl) rfl (by rw [ShWorks_k0 hSV, o36])) ln36 (pd36 (aR V) (aI x2)) <| ok_aloadn (pc' := 1) i36_0 rfl rfl <| ok_getfr (r := P) (pc' := 4) i36_1 o36 gr8_9 (ShWorks_k0 hSV) (ShWorks_r0 hSV) rfl <| ok_getfr (r := (P + 2)) (pc' := 7) i36_4 o36 gr8_19 (ShPlan_k0 hSP) (ShPlan_r2 hSP) rfl <| ?_
    refine ok_aloadn (pc' := 8) i36_7 rfl rfl <| ok_getfr (r := A) (pc' := 11) i36_8 o36 gr8_15 (ShWorks_k0 hSV) (ShWorks_r1 hSV) rfl <| ok_getfr (r := (A + 2)) (pc' := 14) i36_11 o36 gr8_25 (ShState_k0 hSA) (ShState_r3 hSA) rfl <| ok_iconst (pc' := 15) i36_14 rfl <| ok_aaload (r := (A + 3)) (pc' := 16) i36_15 (ShState_k2 hSA) (by decide) (ShState_l2 hSA) (by decide) (ShState_e2_0 hSA) rfl <| ok_iloadn (pc' := 17) i36_16 rfl rfl <| ?_
    have z42 : 0 ≤ s (14 + x2) ∧ s (14 + x2) < q 0 := V_d0 hV (i := x2) (by omega) (by omega)
    refine ok_iaload (v := (s (14 + x2))) (pc' := 18) i36_17 (ShState_k3 hSA) (by decide) (ShState_l3 hSA) (by omega) (RepS_3 hRA (by omega) (by omega)) rfl <| ?_
    have z43 : 1 ≤ q (6 + (s (14 + x2))) ∧ q (6 + (s (14 + x2))) ≤ 99 := Q_6 hQ (i := (s (14 + x2))) (by omega) (by omega)
    refine ok_iaload (v := (q (6 + (s (14 + x2))))) (pc' := 19) i36_18 (ShPlan_k2 hSP) (by decide) (ShPlan_l2 hSP) (by omega) (RepP_2 hRP (by omega) (by omega)) rfl <| ok_ireti i36_19 rt36 <| kt_v (pc' := 39) rfl <| ok_imul (v := ((s (94 + x2)) * (q (6 + (s (14 + x2)))))) (pc' := 40) i119_39 rfl rfl <| ok_iadd (v := (x1 + ((s (94 + x2)) * (q (6 + (s (14 + x2))))))) (pc' := 41) i119_40 rfl rfl <| ok_istoren (pc' := 42) (ls' := [aR Y, aI (x1 + ((s (94 + x2)) * (q (6 + (s (14 + x2)))))), aI x2]) i119_41 (bt rfl) rfl rfl <| ok_iinc (pc' := 45) (v := (x2 + 1)) (ls' := [aR Y, aI (x1 + ((s (94 + x2)) * (q (6 + (s (14 + x2)))))), aI (x2 + 1)]) i119_42 rfl rfl rfl rfl <| ok_goto (pc' := 8) i119_45 rfl <| ?_
    have e : f216_13 s q x2 x1 = (x1 + ((s (94 + x2)) * (q (6 + (s (14 + x2)))))) := by unfold f216_13; rfl
    exact ih _ _ ⟨rfl, by first | omega | (rw [e]; omega), by rw [e]⟩
  · rintro x2 x1 ls M9 g1 g2 ⟨hM, hinv, rfl⟩
    rw [hM]
    have g3 : x2 = (s 3) := by omega
    refine ok_iloadn (pc' := 9) i119_8 rfl rfl <| ok_aloadn (pc' := 10) i119_9 rfl rfl <| ok_getfr (r := A) (pc' := 13) i119_10 o119 gr0_39 (ShYard_k0 hSY) (ShYard_r8 hSY) rfl <| ok_getfi (v := (s 3)) (pc' := 16) i119_13 o119 gi0_129 (ShState_k0 hSA) (RepS_f2 hRA) rfl <| ?_
    refine ok_cge (pc1 := 48) (pc2 := 19) i119_16 (by omega) rfl rfl (fun h1 => ?_) (fun h9 => by exfalso; omega)
    subst g3
    rw [← g2]
    exact K
theorem w121_8 {g : AG} {M : AM} {Y P A V T K H X : Nat} {q s : Int → Int} {b : Int} {x0 : Int} {d : Nat} {Q : AO → AG → AM → Prop} (hSY : ShYard g Y P A V T K H X) (hSV : ShWorks g V P A) (hSP : ShPlan g P) (hSA : ShState g A) (hRP : RepP M P q) (hRA : RepS M A s) (hQ : ValQ q) (hV : Val b q s)  (K : Ok (d + 1) 121 60 [aR Y, aI (itv (f219_13 s) x0 0 ((s 4).toNat)), aI (s 4)] [] g M Q) :
    Ok (d + 1) 121 8 [aR Y, aI x0, aI 0] [] g M Q := by
  have yq0 : 0 ≤ q 0 ∧ q 0 ≤ 4 := Q_0 hQ
  have yq1 : 0 ≤ q 1 ∧ q 1 ≤ 6 := Q_1 hQ
  have ys3 : 0 ≤ s 3 ∧ s 3 ≤ 80 := V_3 hV
  have ys4 : 0 ≤ s 4 ∧ s 4 ≤ 16 := V_4 hV
  refine ok_for (lo := 0) (n := (s 4).toNat) (f := (f219_13 s)) (a0 := x0) (fun x2 x1 ls M9 => M9 = M ∧ (-1 ≤ x2) ∧ ls = [aR Y, aI x1, aI x2]) ?_ ?_ _ _ ⟨rfl, by omega, rfl⟩
  · rintro x2 x1 ls M9 g1 g2 ⟨hM, hinv, rfl⟩ ih
    rw [hM]
    have g3 : x2 < (s 4) := by omega
    refine ok_iloadn (pc' := 9) i121_8 rfl rfl <| ok_aloadn (pc' := 10) i121_9 rfl rfl <| ok_getfr (r := A) (pc' := 13) i121_10 o121 gr0_39 (ShYard_k0 hSY) (ShYard_r8 hSY) rfl <| ok_getfi (v := (s 4)) (pc' := 16) i121_13 o121 gi0_138 (ShState_k0 hSA) (RepS_f4 hRA) rfl <| ?_
    refine ok_cge (pc1 := 60) (pc2 := 19) i121_16 (by omega) rfl rfl (fun h9 => by exfalso; omega) (fun h1 => ?_)
    refine ok_aloadn (pc' := 20) i121_19 rfl rfl <| ok_getfr (r := A) (pc' := 23) i121_20 o121 gr0_39 (ShYard_k0 hSY) (ShYard_r8 hSY) rfl <| ok_getfr (r := (A + 8)) (pc' := 26) i121_23 o121 gr0_183 (ShState_k0 hSA) (ShState_r5 hSA) rfl <| ok_iconst (pc' := 27) i121_26 rfl <| ok_aaload (r := (A + 12)) (pc' := 28) i121_27 (ShState_k8 hSA) (by decide) (ShState_l8 hSA) (by decide) (ShState_e8_3 hSA) rfl <| ok_iloadn (pc' := 29) i121_28 rfl rfl <| ?_
    have z41 : 0 ≤ s ((414 + (8 * x2)) + 3) ∧ s ((414 + (8 * x2)) + 3) ≤ 999 := V_o3 hV (i := x2) (by omega) (by omega)
    refine ok_iaload (v := (s ((414 + (8 * x2)) + 3))) (pc' := 30) i121_29 (ShState_k12 hSA) (by decide) (ShState_l12 hSA) (by omega) (RepS_12 hRA (by omega) (by omega)) rfl <| ok_aloadn (pc' := 31) i121_30 rfl rfl <| ok_getfr (r := A) (pc' := 34) i121_31 o121 gr0_39 (ShYard_k0 hSY) (ShYard_r8 hSY) rfl <| ?_
    have z42 : 0 ≤ s 0 ∧ s 0 ≤ 1000000 := V_0 hV
    refine ok_getfi (v := (s 0)) (pc' := 37) i121_34 o121 gi0_200 (ShState_k0 hSA) (RepS_f0 hRA) rfl <| ?_
    refine ok_cge (pc1 := 54) (pc2 := 40) i121_37 (by omega) rfl rfl (fun h2 => ?_) (fun h2 => ?_)
    · refine ok_iinc (pc' := 57) (v := (x2 + 1)) (ls' := [aR Y, aI x1, aI (x2 + 1)]) i121_54 rfl rfl rfl rfl <| ok_goto (pc' := 8) i121_57 rfl <| ?_
      have e : f219_13 s x2 x1 = x1 := by unfold f219_13; rw [if_pos h2]
      exact ih _ _ ⟨rfl, by first | omega | (rw [e]; omega), by rw [e]⟩
    · refine ok_iloadn (pc' := 41) i121_40 rfl rfl <| ok_aloadn (pc' := 42) i121_41 rfl rfl <| ok_getfr (r := A) (pc' := 45) i121_42 o121 gr0_39 (ShYard_k0 hSY) (ShYard_r8 hSY) rfl <| ok_getfr (r := (A + 8)) (pc' := 48) i121_45 o121 gr0_183 (ShState_k0 hSA) (ShState_r5 hSA) rfl <| ok_iconst (pc' := 49) i121_48 rfl <| ok_aaload (r := (A + 13)) (pc' := 50) i121_49 (ShState_k8 hSA) (by decide) (ShState_l8 hSA) (by decide) (ShState_e8_4 hSA) rfl <| ok_iloadn (pc' := 51) i121_50 rfl rfl <| ?_
      have z43 : 0 ≤ s ((414 + (8 * x2)) + 4) ∧ s ((414 + (8 * x2)) + 4) ≤ 9 := V_o4 hV (i := x2) (by omega) (by omega)
      refine ok_iaload (v := (s ((414 + (8 * x2)) + 4))) (pc' := 52) i121_51 (ShState_k13 hSA) (by decide) (ShState_l13 hSA) (by omega) (RepS_13 hRA (by omega) (by omega)) rfl <| ok_iadd (v := (x1 + (s ((414 + (8 * x2)) + 4)))) (pc' := 53) i121_52 rfl rfl <| ok_istoren (pc' := 54) (ls' := [aR Y, aI (x1 + (s ((414 + (8 * x2)) + 4))), aI x2]) i121_53 (bt rfl) rfl rfl <| ok_iinc (pc' := 57) (v := (x2 + 1)) (ls' := [aR Y, aI (x1 + (s ((414 + (8 * x2)) + 4))), aI (x2 + 1)]) i121_54 rfl rfl rfl rfl <| ok_goto (pc' := 8) i121_57 rfl <| ?_
      have e : f219_13 s x2 x1 = (x1 + (s ((414 + (8 * x2)) + 4))) := by unfold f219_13; rw [if_neg (by omega)]
      exact ih _ _ ⟨rfl, by first | omega | (rw [e]; omega), by rw [e]⟩
  · rintro x2 x1 ls M9 g1 g2 ⟨hM, hinv, rfl⟩
    rw [hM]
    have g3 : x2 = (s 4) := by omega
    refine ok_iloadn (pc' := 9) i121_8 rfl rfl <| ok_aloadn (pc' := 10) i121_9 rfl rfl <| ok_getfr (r := A) (pc' := 13) i121_10 o121 gr0_39 (ShYard_k0 hSY) (ShYard_r8 hSY) rfl <| ok_getfi (v := (s 4)) (pc' := 16) i121_13 o121 gi0_138 (ShState_k0 hSA) (RepS_f4 hRA) rfl <| ?_
    refine ok_cge (pc1 := 60) (pc2 := 19) i121_16 (by omega) rfl rfl (fun h1 => ?_) (fun h9 => by exfalso; omega)
    subst g3
    rw [← g2]
    exact K
def f125_8 (q s : Int → Int) (x2 x1 : Int) : Int := (if (r39 q s x2) = 0 then x1 else (am_or x1 (am_shl 1 x2)))
theorem w125_8 {g : AG} {M : AM} {Y P A V T K H X : Nat} {q s : Int → Int} {b : Int} {x0 : Int} {d : Nat} {Q : AO → AG → AM → Prop} (hSY : ShYard g Y P A V T K H X) (hSV : ShWorks g V P A) (hSP : ShPlan g P) (hSA : ShState g A) (hRP : RepP M P q) (hRA : RepS M A s) (hQ : ValQ q) (hV : Val b q s)  (K : Ok (d + 2) 125 42 [aR Y, aI (itv (f125_8 q s) x0 0 ((q 1).toNat)), aI (q 1)] [] g M Q) :
    Ok (d + 2) 125 8 [aR Y, aI x0, aI 0] [] g M Q := by
  have yq0 : 0 ≤ q 0 ∧ q 0 ≤ 4 := Q_0 hQ
  have yq1 : 0 ≤ q 1 ∧ q 1 ≤ 6 := Q_1 hQ
  have ys3 : 0 ≤ s 3 ∧ s 3 ≤ 80 := V_3 hV
  have ys4 : 0 ≤ s 4 ∧ s 4 ≤ 16 := V_4 hV
  refine ok_for (lo := 0) (n := (q 1).toNat) (f := (f125_8 q s)) (a0 := x0) (fun x2 x1 ls M9 => M9 = M ∧ (-1 ≤ x2) ∧ ls = [aR Y, aI x1, aI x2]) ?_ ?_ _ _ ⟨rfl, by omega, rfl⟩
  · rintro x2 x1 ls M9 g1 g2 ⟨hM, hinv, rfl⟩ ih
    rw [hM]
    have g3 : x2 < (q 1) := by omega
    refine ok_iloadn (pc' := 9) i125_8 rfl rfl <| ok_aloadn (pc' := 10) i125_9 rfl rfl <| ok_getfr (r := P) (pc' := 13) i125_10 o125 gr0_32 (ShYard_k0 hSY) (ShYard_r7 hSY) rfl <| ok_getfi (v := (q 1)) (pc' := 16) i125_13 o125 gi0_141 (ShPlan_k0 hSP) (RepP_f3 hRP) rfl <| ?_
    refine ok_cge (pc1 := 42) (pc2 := 19) i125_16 (by omega) rfl rfl (fun h9 => by exfalso; omega) (fun h1 => ?_)
    refine ok_aloadn (pc' := 20) i125_19 rfl rfl <| ok_getfr (r := V) (pc' := 23) i125_20 o125 gr0_48 (ShYard_k0 hSY) (ShYard_r9 hSY) rfl <| ok_iloadn (pc' := 24) i125_23 rfl rfl <| ok_cp (pc' := 27) (d0 := 1) i125_24 rfl (cl_v o125 m0_235 na39 rfl rfl (bt rfl) (bt rfl) rfl (by rw [ShWorks_k0 hSV, o39])) ln39 (pd39 (aR V) (aI x2)) (by omega) (t39 (x1 := x2) hSV hSP hSA hRP hRA hQ hV (by omega)) rfl <| ?_
    have z41 : 0 ≤ (r39 q s x2) ∧ (r39 q s x2) ≤ 1 := x39 (M := M) (x1 := x2) hSV hSP hSA hRP hRA hQ hV (by omega)
    refine ok_zeq (pc1 := 36) (pc2 := 30) i125_27 (by omega) rfl rfl (fun h2 => ?_) (fun h2 => ?_)
    · refine ok_iinc (pc' := 39) (v := (x2 + 1)) (ls' := [aR Y, aI x1, aI (x2 + 1)]) i125_36 rfl rfl rfl rfl <| ok_goto (pc' := 8) i125_39 rfl <| ?_
      have e : f125_8 q s x2 x1 = x1 := by unfold f125_8; rw [if_pos h2]
      exact ih _ _ ⟨rfl, by first | omega | (rw [e]; omega), by rw [e]⟩
    · refine ok_iloadn (pc' := 31) i125_30 rfl rfl <| ok_iconst (pc' := 32) i125_31 rfl <| ok_iloadn (pc' := 33) i125_32 rfl rfl <| ok_ishl (v := (am_shl 1 x2)) (pc' := 34) i125_33 rfl rfl <| ok_ior (v := (am_or x1 (am_shl 1 x2))) (pc' := 35) i125_34 rfl rfl <| ok_istoren (pc' := 36) (ls' := [aR Y, aI (am_or x1 (am_shl 1 x2)), aI x2]) i125_35 (bt rfl) rfl rfl <| ok_iinc (pc' := 39) (v := (x2 + 1)) (ls' := [aR Y, aI (am_or x1 (am_shl 1 x2)), aI (x2 + 1)]) i125_36 rfl rfl rfl rfl <| ok_goto (pc' := 8) i125_39 rfl <| ?_
      have e : f125_8 q s x2 x1 = (am_or x1 (am_shl 1 x2)) := by unfold f125_8; rw [if_neg (by omega)]
      exact ih _ _ ⟨rfl, by first | omega | (rw [e]; omega), by rw [e]⟩
  · rintro x2 x1 ls M9 g1 g2 ⟨hM, hinv, rfl⟩
    rw [hM]
    have g3 : x2 = (q 1) := by omega
    refine ok_iloadn (pc' := 9) i125_8 rfl rfl <| ok_aloadn (pc' := 10) i125_9 rfl rfl <| ok_getfr (r := P) (pc' := 13) i125_10 o125 gr0_32 (ShYard_k0 hSY) (ShYard_r7 hSY) rfl <| ok_getfi (v := (q 1)) (pc' := 16) i125_13 o125 gi0_141 (ShPlan_k0 hSP) (RepP_f3 hRP) rfl <| ?_
    refine ok_cge (pc1 := 42) (pc2 := 19) i125_16 (by omega) rfl rfl (fun h1 => ?_) (fun h9 => by exfalso; omega)
    subst g3
    rw [← g2]
    exact K
theorem i32_rg (x : Int32) : -2147483648 ≤ x.toInt ∧ x.toInt < 2147483648 := ⟨Int32.minValue_le_toInt x, Int.lt_of_le_of_lt (Int32.toInt_le x) (by decide)⟩
theorem am_or_0 {x : Int} (h : -2147483648 ≤ x ∧ x < 2147483648) : am_or x 0 = x := by
  unfold am_or
  rw [show Int32.ofInt 0 = 0 from rfl, Int32.or_zero]
  exact Int32.toInt_ofInt_of_le (by omega) (by omega)
theorem e_226 {q s : Int → Int} (n : Nat) : itv (f125_8 q s) 0 0 n = itv (f226_13 s q) 0 0 n := by
  refine itv_eq (fun _ a => -2147483648 ≤ a ∧ a < 2147483648) (by decide) n (fun i a h0 h1 h2 => ?_)
  unfold f125_8 f226_13
  split
  · rw [am_or_0 h2]
    exact ⟨rfl, h2⟩
  · exact ⟨rfl, i32_rg _⟩


