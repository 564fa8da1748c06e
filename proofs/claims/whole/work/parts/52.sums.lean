/-! SUMS (by program, wip/gen) -/
theorem o215 : am_oc 215 = 9 := by decide +kernel
theorem o216 : am_oc 216 = 9 := by decide +kernel
theorem o219 : am_oc 219 = 9 := by decide +kernel
theorem o226 : am_oc 226 = 9 := by decide +kernel
theorem o187 : am_oc 187 = 9 := by decide +kernel
theorem gr0_39 : am_gfr 0 39 0 8 = true := by decide +kernel
theorem o118 : am_oc 118 = 0 := by decide +kernel
theorem gi0_129 : am_gfi 0 129 5 2 = true := by decide +kernel
theorem gr0_176 : am_gfr 0 176 5 3 = true := by decide +kernel
theorem o119 : am_oc 119 = 0 := by decide +kernel
theorem gr0_48 : am_gfr 0 48 0 9 = true := by decide +kernel
theorem m0_223 : am_mlk 0 223 0 36 = true := by decide +kernel
theorem o121 : am_oc 121 = 0 := by decide +kernel
theorem gi0_138 : am_gfi 0 138 5 4 = true := by decide +kernel
theorem gr0_183 : am_gfr 0 183 5 5 = true := by decide +kernel
theorem gi0_200 : am_gfi 0 200 5 0 = true := by decide +kernel
theorem gr0_32 : am_gfr 0 32 0 7 = true := by decide +kernel
theorem o125 : am_oc 125 = 0 := by decide +kernel
theorem gi0_141 : am_gfi 0 141 4 3 = true := by decide +kernel
theorem m0_235 : am_mlk 0 235 0 39 = true := by decide +kernel
def f215_13 (s : Int → Int) (x2 x1 : Int) : Int := (x1 + (s (94 + x2)))
theorem w215_13 {g : AG} {M : AM} {O : Nat} {s q : Int → Int} {b : Int} {x0 : Int} {d : Nat} {Q : AO → AG → AM → Prop} (hSO : ShModel g O) (hRO : RepO M O q s) (hV : Val b q s) (hQ : ValQ q)  (K : Ok (d + 2) 215 41 [aR O, aI (itv (f215_13 s) x0 0 ((s 3).toNat)), aI (s 3)] [] g M Q) :
    Ok (d + 2) 215 13 [aR O, aI x0, aI 0] [] g M Q := by
  have ys3 : 0 ≤ s 3 ∧ s 3 ≤ 80 := V_3 hV
  have ys4 : 0 ≤ s 4 ∧ s 4 ≤ 16 := V_4 hV
  have yq0 : 0 ≤ q 0 ∧ q 0 ≤ 4 := Q_0 hQ
  have yq1 : 0 ≤ q 1 ∧ q 1 ≤ 6 := Q_1 hQ
  refine ok_for (lo := 0) (n := (s 3).toNat) (f := (f215_13 s)) (a0 := x0) (fun x2 x1 ls M9 => M9 = M ∧ (-1 ≤ x2) ∧ ls = [aR O, aI x1, aI x2]) ?_ ?_ _ _ ⟨rfl, by omega, rfl⟩
  · rintro x2 x1 ls M9 g1 g2 ⟨hM, hinv, rfl⟩ ih
    rw [hM]
    have g3 : x2 < (s 3) := by omega
    refine ok_iloadn (pc' := 14) i215_13 rfl rfl <| ok_aloadn (pc' := 15) i215_14 rfl rfl <| ok_getfr (r := (O + 5)) (pc' := 18) i215_15 o215 gr9_22 (ShModel_k0 hSO) (ShModel_r8 hSO) rfl <| ok_iconst (pc' := 19) i215_18 rfl <| ok_iaload (v := (s 3)) (pc' := 20) i215_19 (ShModel_k5 hSO) (by decide) (ShModel_l5 hSO) (by decide) (RepO_s hRO) rfl <| ?_
    refine ok_cge (pc1 := 41) (pc2 := 23) i215_20 (by omega) rfl rfl (fun h9 => by exfalso; omega) (fun h1 => ?_)
    refine ok_iloadn (pc' := 24) i215_23 rfl rfl <| ok_aloadn (pc' := 25) i215_24 rfl rfl <| ok_getfr (r := (O + 5)) (pc' := 28) i215_25 o215 gr9_22 (ShModel_k0 hSO) (ShModel_r8 hSO) rfl <| ok_bipush (v := 94) (pc' := 30) i215_28 rfl rfl <| ok_iloadn (pc' := 31) i215_30 rfl rfl <| ok_iadd (v := (94 + x2)) (pc' := 32) i215_31 rfl rfl <| ?_
    have z41 : 0 ≤ s (94 + x2) ∧ s (94 + x2) ≤ 200 := V_d1 hV (i := x2) (by omega) (by omega)
    refine ok_iaload (v := (s (94 + x2))) (pc' := 33) i215_32 (ShModel_k5 hSO) (by decide) (ShModel_l5 hSO) (by omega) (RepO_s hRO) rfl <| ok_iadd (v := (x1 + (s (94 + x2)))) (pc' := 34) i215_33 rfl rfl <| ok_istoren (pc' := 35) (ls' := [aR O, aI (x1 + (s (94 + x2))), aI x2]) i215_34 (bt rfl) rfl rfl <| ok_iinc (pc' := 38) (v := (x2 + 1)) (ls' := [aR O, aI (x1 + (s (94 + x2))), aI (x2 + 1)]) i215_35 rfl rfl rfl rfl <| ok_goto (pc' := 13) i215_38 rfl <| ?_
    have e : f215_13 s x2 x1 = (x1 + (s (94 + x2))) := by unfold f215_13; rfl
    exact ih _ _ ⟨rfl, by first | omega | (rw [e]; omega), by rw [e]⟩
  · rintro x2 x1 ls M9 g1 g2 ⟨hM, hinv, rfl⟩
    rw [hM]
    have g3 : x2 = (s 3) := by omega
    refine ok_iloadn (pc' := 14) i215_13 rfl rfl <| ok_aloadn (pc' := 15) i215_14 rfl rfl <| ok_getfr (r := (O + 5)) (pc' := 18) i215_15 o215 gr9_22 (ShModel_k0 hSO) (ShModel_r8 hSO) rfl <| ok_iconst (pc' := 19) i215_18 rfl <| ok_iaload (v := (s 3)) (pc' := 20) i215_19 (ShModel_k5 hSO) (by decide) (ShModel_l5 hSO) (by decide) (RepO_s hRO) rfl <| ?_
    refine ok_cge (pc1 := 41) (pc2 := 23) i215_20 (by omega) rfl rfl (fun h1 => ?_) (fun h9 => by exfalso; omega)
    subst g3
    rw [← g2]
    exact K
def f216_13 (s q : Int → Int) (x2 x1 : Int) : Int := (x1 + ((s (94 + x2)) * (q (6 + (s (14 + x2))))))
theorem w216_13 {g : AG} {M : AM} {O : Nat} {s q : Int → Int} {b : Int} {x0 : Int} {d : Nat} {Q : AO → AG → AM → Prop} (hSO : ShModel g O) (hRO : RepO M O q s) (hV : Val b q s) (hQ : ValQ q)  (K : Ok (d + 2) 216 56 [aR O, aI (itv (f216_13 s q) x0 0 ((s 3).toNat)), aI (s 3)] [] g M Q) :
    Ok (d + 2) 216 13 [aR O, aI x0, aI 0] [] g M Q := by
  have ys3 : 0 ≤ s 3 ∧ s 3 ≤ 80 := V_3 hV
  have ys4 : 0 ≤ s 4 ∧ s 4 ≤ 16 := V_4 hV
  have yq0 : 0 ≤ q 0 ∧ q 0 ≤ 4 := Q_0 hQ
  have yq1 : 0 ≤ q 1 ∧ q 1 ≤ 6 := Q_1 hQ
  refine ok_for (lo := 0) (n := (s 3).toNat) (f := (f216_13 s q)) (a0 := x0) (fun x2 x1 ls M9 => M9 = M ∧ (-1 ≤ x2) ∧ ls = [aR O, aI x1, aI x2]) ?_ ?_ _ _ ⟨rfl, by omega, rfl⟩
  · rintro x2 x1 ls M9 g1 g2 ⟨hM, hinv, rfl⟩ ih
    rw [hM]
    have g3 : x2 < (s 3) := by omega
    refine ok_iloadn (pc' := 14) i216_13 rfl rfl <| ok_aloadn (pc' := 15) i216_14 rfl rfl <| ok_getfr (r := (O + 5)) (pc' := 18) i216_15 o216 gr9_22 (ShModel_k0 hSO) (ShModel_r8 hSO) rfl <| ok_iconst (pc' := 19) i216_18 rfl <| ok_iaload (v := (s 3)) (pc' := 20) i216_19 (ShModel_k5 hSO) (by decide) (ShModel_l5 hSO) (by decide) (RepO_s hRO) rfl <| ?_
    refine ok_cge (pc1 := 56) (pc2 := 23) i216_20 (by omega) rfl rfl (fun h9 => by exfalso; omega) (fun h1 => ?_)
    refine ok_iloadn (pc' := 24) i216_23 rfl rfl <| ok_aloadn (pc' := 25) i216_24 rfl rfl <| ok_getfr (r := (O + 5)) (pc' := 28) i216_25 o216 gr9_22 (ShModel_k0 hSO) (ShModel_r8 hSO) rfl <| ok_bipush (v := 94) (pc' := 30) i216_28 rfl rfl <| ok_iloadn (pc' := 31) i216_30 rfl rfl <| ok_iadd (v := (94 + x2)) (pc' := 32) i216_31 rfl rfl <| ?_
    have z41 : 0 ≤ s (94 + x2) ∧ s (94 + x2) ≤ 200 := V_d1 hV (i := x2) (by omega) (by omega)
    refine ok_iaload (v := (s (94 + x2))) (pc' := 33) i216_32 (ShModel_k5 hSO) (by decide) (ShModel_l5 hSO) (by omega) (RepO_s hRO) rfl <| ok_aloadn (pc' := 34) i216_33 rfl rfl <| ok_getfr (r := (O + 2)) (pc' := 37) i216_34 o216 gr9_13 (ShModel_k0 hSO) (ShModel_r5 hSO) rfl <| ok_aloadn (pc' := 38) i216_37 rfl rfl <| ok_getfr (r := (O + 5)) (pc' := 41) i216_38 o216 gr9_22 (ShModel_k0 hSO) (ShModel_r8 hSO) rfl <| ok_bipush (v := 14) (pc' := 43) i216_41 rfl rfl <| ok_iloadn (pc' := 44) i216_43 rfl rfl <| ok_iadd (v := (14 + x2)) (pc' := 45) i216_44 rfl rfl <| ?_
    have z42 : 0 ≤ s (14 + x2) ∧ s (14 + x2) < q 0 := V_d0 hV (i := x2) (by omega) (by omega)
    refine ok_iaload (v := (s (14 + x2))) (pc' := 46) i216_45 (ShModel_k5 hSO) (by decide) (ShModel_l5 hSO) (by omega) (RepO_s hRO) rfl <| ?_
    have z43 : 1 ≤ q (6 + (s (14 + x2))) ∧ q (6 + (s (14 + x2))) ≤ 99 := Q_6 hQ (i := (s (14 + x2))) (by omega) (by omega)
    refine ok_iaload (v := (q (6 + (s (14 + x2))))) (pc' := 47) i216_46 (ShModel_k2 hSO) (by decide) (ShModel_l2 hSO) (by omega) (RepO_2 hRO (by omega) (by omega)) rfl <| ok_imul (v := ((s (94 + x2)) * (q (6 + (s (14 + x2)))))) (pc' := 48) i216_47 rfl rfl <| ok_iadd (v := (x1 + ((s (94 + x2)) * (q (6 + (s (14 + x2))))))) (pc' := 49) i216_48 rfl rfl <| ok_istoren (pc' := 50) (ls' := [aR O, aI (x1 + ((s (94 + x2)) * (q (6 + (s (14 + x2)))))), aI x2]) i216_49 (bt rfl) rfl rfl <| ok_iinc (pc' := 53) (v := (x2 + 1)) (ls' := [aR O, aI (x1 + ((s (94 + x2)) * (q (6 + (s (14 + x2)))))), aI (x2 + 1)]) i216_50 rfl rfl rfl rfl <| ok_goto (pc' := 13) i216_53 rfl <| ?_
    have e : f216_13 s q x2 x1 = (x1 + ((s (94 + x2)) * (q (6 + (s (14 + x2)))))) := by unfold f216_13; rfl
    exact ih _ _ ⟨rfl, by first | omega | (rw [e]; omega), by rw [e]⟩
  · rintro x2 x1 ls M9 g1 g2 ⟨hM, hinv, rfl⟩
    rw [hM]
    have g3 : x2 = (s 3) := by omega
    refine ok_iloadn (pc' := 14) i216_13 rfl rfl <| ok_aloadn (pc' := 15) i216_14 rfl rfl <| ok_getfr (r := (O + 5)) (pc' := 18) i216_15 o216 gr9_22 (ShModel_k0 hSO) (ShModel_r8 hSO) rfl <| ok_iconst (pc' := 19) i216_18 rfl <| ok_iaload (v := (s 3)) (pc' := 20) i216_19 (ShModel_k5 hSO) (by decide) (ShModel_l5 hSO) (by decide) (RepO_s hRO) rfl <| ?_
    refine ok_cge (pc1 := 56) (pc2 := 23) i216_20 (by omega) rfl rfl (fun h1 => ?_) (fun h9 => by exfalso; omega)
    subst g3
    rw [← g2]
    exact K
def f219_13 (s : Int → Int) (x2 x1 : Int) : Int := (if (s 0) ≤ (s ((414 + (8 * x2)) + 3)) then x1 else (x1 + (s ((414 + (8 * x2)) + 4))))
theorem w219_13 {g : AG} {M : AM} {O : Nat} {s q : Int → Int} {b : Int} {x0 : Int} {d : Nat} {Q : AO → AG → AM → Prop} (hSO : ShModel g O) (hRO : RepO M O q s) (hV : Val b q s) (hQ : ValQ q)  (K : Ok (d + 2) 219 57 [aR O, aI (itv (f219_13 s) x0 0 ((s 4).toNat)), aI (s 4)] [] g M Q) :
    Ok (d + 2) 219 13 [aR O, aI x0, aI 0] [] g M Q := by
  have ys3 : 0 ≤ s 3 ∧ s 3 ≤ 80 := V_3 hV
  have ys4 : 0 ≤ s 4 ∧ s 4 ≤ 16 := V_4 hV
  have yq0 : 0 ≤ q 0 ∧ q 0 ≤ 4 := Q_0 hQ
  have yq1 : 0 ≤ q 1 ∧ q 1 ≤ 6 := Q_1 hQ
  refine ok_for (lo := 0) (n := (s 4).toNat) (f := (f219_13 s)) (a0 := x0) (fun x2 x1 ls M9 => M9 = M ∧ (-1 ≤ x2) ∧ ls = [aR O, aI x1, aI x2]) ?_ ?_ _ _ ⟨rfl, by omega, rfl⟩
  · rintro x2 x1 ls M9 g1 g2 ⟨hM, hinv, rfl⟩ ih
    rw [hM]
    have g3 : x2 < (s 4) := by omega
    refine ok_iloadn (pc' := 14) i219_13 rfl rfl <| ok_aloadn (pc' := 15) i219_14 rfl rfl <| ok_getfr (r := (O + 5)) (pc' := 18) i219_15 o219 gr9_22 (ShModel_k0 hSO) (ShModel_r8 hSO) rfl <| ok_iconst (pc' := 19) i219_18 rfl <| ok_iaload (v := (s 4)) (pc' := 20) i219_19 (ShModel_k5 hSO) (by decide) (ShModel_l5 hSO) (by decide) (RepO_s hRO) rfl <| ?_
    refine ok_cge (pc1 := 57) (pc2 := 23) i219_20 (by omega) rfl rfl (fun h9 => by exfalso; omega) (fun h1 => ?_)
    refine ok_iloadn (pc' := 24) i219_23 rfl rfl <| ok_aloadn (pc' := 25) i219_24 rfl rfl <| ok_iloadn (pc' := 26) i219_25 rfl rfl <| ok_iconst (pc' := 27) i219_26 rfl <| ok_cc i219_27 rfl (cl_v o219 m9_226 na191 rfl rfl (bt rfl) (bt rfl) rfl (by rw [ShModel_k0 hSO, o191])) ln191 (pd191 (aR O) (aI x2) (aI 3)) <| ok_aloadn (pc' := 1) i191_0 rfl rfl <| ok_getfr (r := (O + 5)) (pc' := 4) i191_1 o191 gr9_22 (ShModel_k0 hSO) (ShModel_r8 hSO) rfl <| ok_sipush (v := 414) (pc' := 7) i191_4 rfl rfl <| ?_
    refine ok_bipush (v := 8) (pc' := 9) i191_7 rfl rfl <| ok_iloadn (pc' := 10) i191_9 rfl rfl <| ok_imul (v := (8 * x2)) (pc' := 11) i191_10 rfl rfl <| ok_iadd (v := (414 + (8 * x2))) (pc' := 12) i191_11 rfl rfl <| ok_iloadn (pc' := 13) i191_12 rfl rfl <| ok_iadd (v := ((414 + (8 * x2)) + 3)) (pc' := 14) i191_13 rfl rfl <| ?_
    have z41 : 0 ≤ s ((414 + (8 * x2)) + 3) ∧ s ((414 + (8 * x2)) + 3) ≤ 999 := V_o3 hV (i := x2) (by omega) (by omega)
    refine ok_iaload (v := (s ((414 + (8 * x2)) + 3))) (pc' := 15) i191_14 (ShModel_k5 hSO) (by decide) (ShModel_l5 hSO) (by omega) (RepO_s hRO) rfl <| ok_ireti i191_15 rt191 <| kt_v (pc' := 30) rfl <| ok_aloadn (pc' := 31) i219_30 rfl rfl <| ok_getfr (r := (O + 5)) (pc' := 34) i219_31 o219 gr9_22 (ShModel_k0 hSO) (ShModel_r8 hSO) rfl <| ok_iconst (pc' := 35) i219_34 rfl <| ?_
    have z42 : 0 ≤ s 0 ∧ s 0 ≤ 1000000 := V_0 hV
    refine ok_iaload (v := (s 0)) (pc' := 36) i219_35 (ShModel_k5 hSO) (by decide) (ShModel_l5 hSO) (by decide) (RepO_s hRO) rfl <| ?_
    refine ok_cge (pc1 := 48) (pc2 := 39) i219_36 (by omega) rfl rfl (fun h2 => ?_) (fun h2 => ?_)
    · refine ok_iconst (pc' := 49) i219_48 rfl <| ok_iadd (v := x1) (pc' := 50) i219_49 (by omega) rfl <| ok_istoren (pc' := 51) (ls' := [aR O, aI x1, aI x2]) i219_50 (bt rfl) rfl rfl <| ok_iinc (pc' := 54) (v := (x2 + 1)) (ls' := [aR O, aI x1, aI (x2 + 1)]) i219_51 rfl rfl rfl rfl <| ok_goto (pc' := 13) i219_54 rfl <| ?_
      have e : f219_13 s x2 x1 = x1 := by unfold f219_13; rw [if_pos h2]
      exact ih _ _ ⟨rfl, by first | omega | (rw [e]; omega), by rw [e]⟩
    · refine ok_aloadn (pc' := 40) i219_39 rfl rfl <| ok_iloadn (pc' := 41) i219_40 rfl rfl <| ok_iconst (pc' := 42) i219_41 rfl <| ok_cc i219_42 rfl (cl_v o219 m9_226 na191 rfl rfl (bt rfl) (bt rfl) rfl (by rw [ShModel_k0 hSO, o191])) ln191 (pd191 (aR O) (aI x2) (aI 4)) <| ok_aloadn (pc' := 1) i191_0 rfl rfl <| ok_getfr (r := (O + 5)) (pc' := 4) i191_1 o191 gr9_22 (ShModel_k0 hSO) (ShModel_r8 hSO) rfl <| ok_sipush (v := 414) (pc' := 7) i191_4 rfl rfl <| ok_bipush (v := 8) (pc' := 9) i191_7 rfl rfl <| ?_
      refine ok_iloadn (pc' := 10) i191_9 rfl rfl <| ok_imul (v := (8 * x2)) (pc' := 11) i191_10 rfl rfl <| ok_iadd (v := (414 + (8 * x2))) (pc' := 12) i191_11 rfl rfl <| ok_iloadn (pc' := 13) i191_12 rfl rfl <| ok_iadd (v := ((414 + (8 * x2)) + 4)) (pc' := 14) i191_13 rfl rfl <| ?_
      have z43 : 0 ≤ s ((414 + (8 * x2)) + 4) ∧ s ((414 + (8 * x2)) + 4) ≤ 9 := V_o4 hV (i := x2) (by omega) (by omega)
      refine ok_iaload (v := (s ((414 + (8 * x2)) + 4))) (pc' := 15) i191_14 (ShModel_k5 hSO) (by decide) (ShModel_l5 hSO) (by omega) (RepO_s hRO) rfl <| ok_ireti i191_15 rt191 <| kt_v (pc' := 45) rfl <| ok_goto (pc' := 49) i219_45 rfl <| ok_iadd (v := (x1 + (s ((414 + (8 * x2)) + 4)))) (pc' := 50) i219_49 rfl rfl <| ok_istoren (pc' := 51) (ls' := [aR O, aI (x1 + (s ((414 + (8 * x2)) + 4))), aI x2]) i219_50 (bt rfl) rfl rfl <| ok_iinc (pc' := 54) (v := (x2 + 1)) (ls' := [aR O, aI (x1 + (s ((414 + (8 * x2)) + 4))), aI (x2 + 1)]) i219_51 rfl rfl rfl rfl <| ok_goto (pc' := 13) i219_54 rfl <| ?_
      have e : f219_13 s x2 x1 = (x1 + (s ((414 + (8 * x2)) + 4))) := by unfold f219_13; rw [if_neg (by omega)]
      exact ih _ _ ⟨rfl, by first | omega | (rw [e]; omega), by rw [e]⟩
  · rintro x2 x1 ls M9 g1 g2 ⟨hM, hinv, rfl⟩
    rw [hM]
    have g3 : x2 = (s 4) := by omega
    refine ok_iloadn (pc' := 14) i219_13 rfl rfl <| ok_aloadn (pc' := 15) i219_14 rfl rfl <| ok_getfr (r := (O + 5)) (pc' := 18) i219_15 o219 gr9_22 (ShModel_k0 hSO) (ShModel_r8 hSO) rfl <| ok_iconst (pc' := 19) i219_18 rfl <| ok_iaload (v := (s 4)) (pc' := 20) i219_19 (ShModel_k5 hSO) (by decide) (ShModel_l5 hSO) (by decide) (RepO_s hRO) rfl <| ?_
    refine ok_cge (pc1 := 57) (pc2 := 23) i219_20 (by omega) rfl rfl (fun h1 => ?_) (fun h9 => by exfalso; omega)
    subst g3
    rw [← g2]
    exact K
def f226_13 (s q : Int → Int) (x2 x1 : Int) : Int := (if (r39 q s x2) = 0 then (am_or x1 0) else (am_or x1 (am_shl 1 x2)))
theorem w226_13 {g : AG} {M : AM} {O : Nat} {s q : Int → Int} {b : Int} {x0 : Int} {d : Nat} {Q : AO → AG → AM → Prop} (hSO : ShModel g O) (hRO : RepO M O q s) (hV : Val b q s) (hQ : ValQ q)  (K : Ok (d + 3) 226 45 [aR O, aI (itv (f226_13 s q) x0 0 ((q 1).toNat)), aI (q 1)] [] g M Q) :
    Ok (d + 3) 226 13 [aR O, aI x0, aI 0] [] g M Q := by
  have ys3 : 0 ≤ s 3 ∧ s 3 ≤ 80 := V_3 hV
  have ys4 : 0 ≤ s 4 ∧ s 4 ≤ 16 := V_4 hV
  have yq0 : 0 ≤ q 0 ∧ q 0 ≤ 4 := Q_0 hQ
  have yq1 : 0 ≤ q 1 ∧ q 1 ≤ 6 := Q_1 hQ
  refine ok_for (lo := 0) (n := (q 1).toNat) (f := (f226_13 s q)) (a0 := x0) (fun x2 x1 ls M9 => M9 = M ∧ (-1 ≤ x2) ∧ ls = [aR O, aI x1, aI x2]) ?_ ?_ _ _ ⟨rfl, by omega, rfl⟩
  · rintro x2 x1 ls M9 g1 g2 ⟨hM, hinv, rfl⟩ ih
    rw [hM]
    have g3 : x2 < (q 1) := by omega
    refine ok_iloadn (pc' := 14) i226_13 rfl rfl <| ok_aloadn (pc' := 15) i226_14 rfl rfl <| ok_getfi (v := (q 1)) (pc' := 18) i226_15 o226 gi9_206 (ShModel_k0 hSO) (RepO_f3 hRO) rfl <| ?_
    refine ok_cge (pc1 := 45) (pc2 := 21) i226_18 (by omega) rfl rfl (fun h9 => by exfalso; omega) (fun h1 => ?_)
    refine ok_iloadn (pc' := 22) i226_21 rfl rfl <| ok_aloadn (pc' := 23) i226_22 rfl rfl <| ok_iloadn (pc' := 24) i226_23 rfl rfl <| ok_cp (pc' := 27) (d0 := 2) i226_24 rfl (cl_v o226 m9_280 na227 rfl rfl (bt rfl) (bt rfl) rfl (by rw [ShModel_k0 hSO, o227])) ln227 (pd227 (aR O) (aI x2)) (by omega) (tr227 (x1 := x2) hSO hRO hV hQ (by omega)) rfl <| ?_
    have z41 : 0 ≤ (r39 q s x2) ∧ (r39 q s x2) ≤ 1 := xr227 (M := M) (x1 := x2) hSO hRO hV hQ (by omega)
    refine ok_zeq (pc1 := 36) (pc2 := 30) i226_27 (by omega) rfl rfl (fun h2 => ?_) (fun h2 => ?_)
    · refine ok_iconst (pc' := 37) i226_36 rfl <| ok_ior (v := (am_or x1 0)) (pc' := 38) i226_37 rfl rfl <| ok_istoren (pc' := 39) (ls' := [aR O, aI (am_or x1 0), aI x2]) i226_38 (bt rfl) rfl rfl <| ok_iinc (pc' := 42) (v := (x2 + 1)) (ls' := [aR O, aI (am_or x1 0), aI (x2 + 1)]) i226_39 rfl rfl rfl rfl <| ok_goto (pc' := 13) i226_42 rfl <| ?_
      have e : f226_13 s q x2 x1 = (am_or x1 0) := by unfold f226_13; rw [if_pos h2]
      exact ih _ _ ⟨rfl, by first | omega | (rw [e]; omega), by rw [e]⟩
    · refine ok_iconst (pc' := 31) i226_30 rfl <| ok_iloadn (pc' := 32) i226_31 rfl rfl <| ok_ishl (v := (am_shl 1 x2)) (pc' := 33) i226_32 rfl rfl <| ok_goto (pc' := 37) i226_33 rfl <| ok_ior (v := (am_or x1 (am_shl 1 x2))) (pc' := 38) i226_37 rfl rfl <| ok_istoren (pc' := 39) (ls' := [aR O, aI (am_or x1 (am_shl 1 x2)), aI x2]) i226_38 (bt rfl) rfl rfl <| ok_iinc (pc' := 42) (v := (x2 + 1)) (ls' := [aR O, aI (am_or x1 (am_shl 1 x2)), aI (x2 + 1)]) i226_39 rfl rfl rfl rfl <| ok_goto (pc' := 13) i226_42 rfl <| ?_
      have e : f226_13 s q x2 x1 = (am_or x1 (am_shl 1 x2)) := by unfold f226_13; rw [if_neg (by omega)]
      exact ih _ _ ⟨rfl, by first | omega | (rw [e]; omega), by rw [e]⟩
  · rintro x2 x1 ls M9 g1 g2 ⟨hM, hinv, rfl⟩
    rw [hM]
    have g3 : x2 = (q 1) := by omega
    refine ok_iloadn (pc' := 14) i226_13 rfl rfl <| ok_aloadn (pc' := 15) i226_14 rfl rfl <| ok_getfi (v := (q 1)) (pc' := 18) i226_15 o226 gi9_206 (ShModel_k0 hSO) (RepO_f3 hRO) rfl <| ?_
    refine ok_cge (pc1 := 45) (pc2 := 21) i226_18 (by omega) rfl rfl (fun h1 => ?_) (fun h9 => by exfalso; omega)
    subst g3
    rw [← g2]
    exact K
def f187_102 (s : Int → Int) (x3 x2 : Int) : Int := (if (s (174 + x3)) ≠ 0 then x2 else (x2 + 1))
theorem w187_102 {g : AG} {M : AM} {O : Nat} {s q : Int → Int} {b : Int} {x0 x1 : Int} {d : Nat} {Q : AO → AG → AM → Prop} (hSO : ShModel g O) (hRO : RepO M O q s) (hV : Val b q s) (hQ : ValQ q) (h1 : -2147483648 ≤ x1 ∧ x1 < 2147483648)  (K : Ok (d + 2) 187 129 [aR O, aI x1, aI (itv (f187_102 s) x0 0 ((s 3).toNat)), aI (s 3)] [] g M Q) :
    Ok (d + 2) 187 102 [aR O, aI x1, aI x0, aI 0] [] g M Q := by
  have ys3 : 0 ≤ s 3 ∧ s 3 ≤ 80 := V_3 hV
  have ys4 : 0 ≤ s 4 ∧ s 4 ≤ 16 := V_4 hV
  have yq0 : 0 ≤ q 0 ∧ q 0 ≤ 4 := Q_0 hQ
  have yq1 : 0 ≤ q 1 ∧ q 1 ≤ 6 := Q_1 hQ
  refine ok_for (lo := 0) (n := (s 3).toNat) (f := (f187_102 s)) (a0 := x0) (fun x3 x2 ls M9 => M9 = M ∧ (-1 ≤ x3) ∧ ls = [aR O, aI x1, aI x2, aI x3]) ?_ ?_ _ _ ⟨rfl, by omega, rfl⟩
  · rintro x3 x2 ls M9 g1 g2 ⟨hM, hinv, rfl⟩ ih
    rw [hM]
    have g3 : x3 < (s 3) := by omega
    refine ok_iloadn (pc' := 103) i187_102 rfl rfl <| ok_aloadn (pc' := 104) i187_103 rfl rfl <| ok_getfr (r := (O + 5)) (pc' := 107) i187_104 o187 gr9_22 (ShModel_k0 hSO) (ShModel_r8 hSO) rfl <| ok_iconst (pc' := 108) i187_107 rfl <| ok_iaload (v := (s 3)) (pc' := 109) i187_108 (ShModel_k5 hSO) (by decide) (ShModel_l5 hSO) (by decide) (RepO_s hRO) rfl <| ?_
    refine ok_cge (pc1 := 129) (pc2 := 112) i187_109 (by omega) rfl rfl (fun h9 => by exfalso; omega) (fun h1 => ?_)
    refine ok_iloadn (pc' := 113) i187_112 rfl rfl <| ok_aloadn (pc' := 114) i187_113 rfl rfl <| ok_iloadn (pc' := 115) i187_114 rfl rfl <| ok_cc i187_115 rfl (cl_v o187 m9_229 na189 rfl rfl (bt rfl) (bt rfl) rfl (by rw [ShModel_k0 hSO, o189])) ln189 (pd189 (aR O) (aI x3)) <| ok_aloadn (pc' := 1) i189_0 rfl rfl <| ok_getfr (r := (O + 5)) (pc' := 4) i189_1 o189 gr9_22 (ShModel_k0 hSO) (ShModel_r8 hSO) rfl <| ok_sipush (v := 174) (pc' := 7) i189_4 rfl rfl <| ok_iloadn (pc' := 8) i189_7 rfl rfl <| ?_
    refine ok_iadd (v := (174 + x3)) (pc' := 9) i189_8 rfl rfl <| ?_
    have z41 : 0 ≤ s (174 + x3) ∧ s (174 + x3) ≤ 2 := V_d2 hV (i := x3) (by omega) (by omega)
    refine ok_iaload (v := (s (174 + x3))) (pc' := 10) i189_9 (ShModel_k5 hSO) (by decide) (ShModel_l5 hSO) (by omega) (RepO_s hRO) rfl <| ?_
    refine ok_zne (pc1 := 17) (pc2 := 13) i189_10 (by omega) rfl rfl (fun h2 => ?_) (fun h2 => ?_)
    · refine ok_iconst (pc' := 18) i189_17 rfl <| ok_iretz i189_18 rt189 (by decide) <| kt_v (pc' := 118) rfl <| ok_cc i187_118 rfl (cl_s o187 m9_193 na185 rfl rfl (bt rfl) (bt rfl) rfl) ln185 (pd185 (aI 0)) <| ok_iloadn (pc' := 1) i185_0 rfl rfl <| ok_kz1 (pc1 := 8) (pc2 := 4) i185_1 (by decide) rfl rfl <| ok_iconst (pc' := 9) i185_8 rfl <| ok_ireti i185_9 rt185 <| ?_
      refine kt_v (pc' := 121) rfl <| ok_iadd (v := x2) (pc' := 122) i187_121 (by omega) rfl <| ok_istoren (pc' := 123) (ls' := [aR O, aI x1, aI x2, aI x3]) i187_122 (bt rfl) rfl rfl <| ok_iinc (pc' := 126) (v := (x3 + 1)) (ls' := [aR O, aI x1, aI x2, aI (x3 + 1)]) i187_123 rfl rfl rfl rfl <| ok_goto (pc' := 102) i187_126 rfl <| ?_
      have e : f187_102 s x3 x2 = x2 := by unfold f187_102; rw [if_pos h2]
      exact ih _ _ ⟨rfl, by first | omega | (rw [e]; omega), by rw [e]⟩
    · refine ok_iconst (pc' := 14) i189_13 rfl <| ok_goto (pc' := 18) i189_14 rfl <| ok_iretz i189_18 rt189 (by decide) <| kt_v (pc' := 118) rfl <| ok_cc i187_118 rfl (cl_s o187 m9_193 na185 rfl rfl (bt rfl) (bt rfl) rfl) ln185 (pd185 (aI 1)) <| ok_iloadn (pc' := 1) i185_0 rfl rfl <| ok_kz0 (pc1 := 8) (pc2 := 4) i185_1 (by decide) rfl rfl <| ok_iconst (pc' := 5) i185_4 rfl <| ?_
      refine ok_goto (pc' := 9) i185_5 rfl <| ok_ireti i185_9 rt185 <| kt_v (pc' := 121) rfl <| ok_iadd (v := (x2 + 1)) (pc' := 122) i187_121 rfl rfl <| ok_istoren (pc' := 123) (ls' := [aR O, aI x1, aI (x2 + 1), aI x3]) i187_122 (bt rfl) rfl rfl <| ok_iinc (pc' := 126) (v := (x3 + 1)) (ls' := [aR O, aI x1, aI (x2 + 1), aI (x3 + 1)]) i187_123 rfl rfl rfl rfl <| ok_goto (pc' := 102) i187_126 rfl <| ?_
      have e : f187_102 s x3 x2 = (x2 + 1) := by unfold f187_102; rw [if_neg (by omega)]
      exact ih _ _ ⟨rfl, by first | omega | (rw [e]; omega), by rw [e]⟩
  · rintro x3 x2 ls M9 g1 g2 ⟨hM, hinv, rfl⟩
    rw [hM]
    have g3 : x3 = (s 3) := by omega
    refine ok_iloadn (pc' := 103) i187_102 rfl rfl <| ok_aloadn (pc' := 104) i187_103 rfl rfl <| ok_getfr (r := (O + 5)) (pc' := 107) i187_104 o187 gr9_22 (ShModel_k0 hSO) (ShModel_r8 hSO) rfl <| ok_iconst (pc' := 108) i187_107 rfl <| ok_iaload (v := (s 3)) (pc' := 109) i187_108 (ShModel_k5 hSO) (by decide) (ShModel_l5 hSO) (by decide) (RepO_s hRO) rfl <| ?_
    refine ok_cge (pc1 := 129) (pc2 := 112) i187_109 (by omega) rfl rfl (fun h1 => ?_) (fun h9 => by exfalso; omega)
    subst g3
    rw [← g2]
    exact K
def f187_133 (s : Int → Int) (x3 x2 : Int) : Int := (if (s ((414 + (8 * x3)) + 4)) ≤ 0 then x2 else (x2 + 1))
theorem w187_133 {g : AG} {M : AM} {O : Nat} {s q : Int → Int} {b : Int} {x0 x1 : Int} {d : Nat} {Q : AO → AG → AM → Prop} (hSO : ShModel g O) (hRO : RepO M O q s) (hV : Val b q s) (hQ : ValQ q) (h1 : -2147483648 ≤ x1 ∧ x1 < 2147483648)  (K : Ok (d + 2) 187 160 [aR O, aI x1, aI (itv (f187_133 s) x0 0 ((s 4).toNat)), aI (s 4)] [] g M Q) :
    Ok (d + 2) 187 133 [aR O, aI x1, aI x0, aI 0] [] g M Q := by
  have ys3 : 0 ≤ s 3 ∧ s 3 ≤ 80 := V_3 hV
  have ys4 : 0 ≤ s 4 ∧ s 4 ≤ 16 := V_4 hV
  have yq0 : 0 ≤ q 0 ∧ q 0 ≤ 4 := Q_0 hQ
  have yq1 : 0 ≤ q 1 ∧ q 1 ≤ 6 := Q_1 hQ
  refine ok_for (lo := 0) (n := (s 4).toNat) (f := (f187_133 s)) (a0 := x0) (fun x3 x2 ls M9 => M9 = M ∧ (-1 ≤ x3) ∧ ls = [aR O, aI x1, aI x2, aI x3]) ?_ ?_ _ _ ⟨rfl, by omega, rfl⟩
  · rintro x3 x2 ls M9 g1 g2 ⟨hM, hinv, rfl⟩ ih
    rw [hM]
    have g3 : x3 < (s 4) := by omega
    refine ok_iloadn (pc' := 134) i187_133 rfl rfl <| ok_aloadn (pc' := 135) i187_134 rfl rfl <| ok_getfr (r := (O + 5)) (pc' := 138) i187_135 o187 gr9_22 (ShModel_k0 hSO) (ShModel_r8 hSO) rfl <| ok_iconst (pc' := 139) i187_138 rfl <| ok_iaload (v := (s 4)) (pc' := 140) i187_139 (ShModel_k5 hSO) (by decide) (ShModel_l5 hSO) (by decide) (RepO_s hRO) rfl <| ?_
    refine ok_cge (pc1 := 160) (pc2 := 143) i187_140 (by omega) rfl rfl (fun h9 => by exfalso; omega) (fun h1 => ?_)
    refine ok_iloadn (pc' := 144) i187_143 rfl rfl <| ok_aloadn (pc' := 145) i187_144 rfl rfl <| ok_iloadn (pc' := 146) i187_145 rfl rfl <| ok_cc i187_146 rfl (cl_v o187 m9_232 na190 rfl rfl (bt rfl) (bt rfl) rfl (by rw [ShModel_k0 hSO, o190])) ln190 (pd190 (aR O) (aI x3)) <| ok_aloadn (pc' := 1) i190_0 rfl rfl <| ok_iloadn (pc' := 2) i190_1 rfl rfl <| ok_iconst (pc' := 3) i190_2 rfl <| ok_cc i190_3 rfl (cl_v o190 m9_226 na191 rfl rfl (bt rfl) (bt rfl) rfl (by rw [ShModel_k0 hSO, o191])) ln191 (pd191 (aR O) (aI x3) (aI 4)) <| ?_
    refine ok_aloadn (pc' := 1) i191_0 rfl rfl <| ok_getfr (r := (O + 5)) (pc' := 4) i191_1 o191 gr9_22 (ShModel_k0 hSO) (ShModel_r8 hSO) rfl <| ok_sipush (v := 414) (pc' := 7) i191_4 rfl rfl <| ok_bipush (v := 8) (pc' := 9) i191_7 rfl rfl <| ok_iloadn (pc' := 10) i191_9 rfl rfl <| ok_imul (v := (8 * x3)) (pc' := 11) i191_10 rfl rfl <| ok_iadd (v := (414 + (8 * x3))) (pc' := 12) i191_11 rfl rfl <| ok_iloadn (pc' := 13) i191_12 rfl rfl <| ?_
    refine ok_iadd (v := ((414 + (8 * x3)) + 4)) (pc' := 14) i191_13 rfl rfl <| ?_
    have z41 : 0 ≤ s ((414 + (8 * x3)) + 4) ∧ s ((414 + (8 * x3)) + 4) ≤ 9 := V_o4 hV (i := x3) (by omega) (by omega)
    refine ok_iaload (v := (s ((414 + (8 * x3)) + 4))) (pc' := 15) i191_14 (ShModel_k5 hSO) (by decide) (ShModel_l5 hSO) (by omega) (RepO_s hRO) rfl <| ok_ireti i191_15 rt191 <| kt_v (pc' := 6) rfl <| ?_
    refine ok_zle (pc1 := 13) (pc2 := 9) i190_6 (by omega) rfl rfl (fun h2 => ?_) (fun h2 => ?_)
    · refine ok_iconst (pc' := 14) i190_13 rfl <| ok_iretz i190_14 rt190 (by decide) <| kt_v (pc' := 149) rfl <| ok_cc i187_149 rfl (cl_s o187 m9_193 na185 rfl rfl (bt rfl) (bt rfl) rfl) ln185 (pd185 (aI 0)) <| ok_iloadn (pc' := 1) i185_0 rfl rfl <| ok_kz1 (pc1 := 8) (pc2 := 4) i185_1 (by decide) rfl rfl <| ok_iconst (pc' := 9) i185_8 rfl <| ok_ireti i185_9 rt185 <| ?_
      refine kt_v (pc' := 152) rfl <| ok_iadd (v := x2) (pc' := 153) i187_152 (by omega) rfl <| ok_istoren (pc' := 154) (ls' := [aR O, aI x1, aI x2, aI x3]) i187_153 (bt rfl) rfl rfl <| ok_iinc (pc' := 157) (v := (x3 + 1)) (ls' := [aR O, aI x1, aI x2, aI (x3 + 1)]) i187_154 rfl rfl rfl rfl <| ok_goto (pc' := 133) i187_157 rfl <| ?_
      have e : f187_133 s x3 x2 = x2 := by unfold f187_133; rw [if_pos h2]
      exact ih _ _ ⟨rfl, by first | omega | (rw [e]; omega), by rw [e]⟩
    · refine ok_iconst (pc' := 10) i190_9 rfl <| ok_goto (pc' := 14) i190_10 rfl <| ok_iretz i190_14 rt190 (by decide) <| kt_v (pc' := 149) rfl <| ok_cc i187_149 rfl (cl_s o187 m9_193 na185 rfl rfl (bt rfl) (bt rfl) rfl) ln185 (pd185 (aI 1)) <| ok_iloadn (pc' := 1) i185_0 rfl rfl <| ok_kz0 (pc1 := 8) (pc2 := 4) i185_1 (by decide) rfl rfl <| ok_iconst (pc' := 5) i185_4 rfl <| ?_
      refine ok_goto (pc' := 9) i185_5 rfl <| ok_ireti i185_9 rt185 <| kt_v (pc' := 152) rfl <| ok_iadd (v := (x2 + 1)) (pc' := 153) i187_152 rfl rfl <| ok_istoren (pc' := 154) (ls' := [aR O, aI x1, aI (x2 + 1), aI x3]) i187_153 (bt rfl) rfl rfl <| ok_iinc (pc' := 157) (v := (x3 + 1)) (ls' := [aR O, aI x1, aI (x2 + 1), aI (x3 + 1)]) i187_154 rfl rfl rfl rfl <| ok_goto (pc' := 133) i187_157 rfl <| ?_
      have e : f187_133 s x3 x2 = (x2 + 1) := by unfold f187_133; rw [if_neg (by omega)]
      exact ih _ _ ⟨rfl, by first | omega | (rw [e]; omega), by rw [e]⟩
  · rintro x3 x2 ls M9 g1 g2 ⟨hM, hinv, rfl⟩
    rw [hM]
    have g3 : x3 = (s 4) := by omega
    refine ok_iloadn (pc' := 134) i187_133 rfl rfl <| ok_aloadn (pc' := 135) i187_134 rfl rfl <| ok_getfr (r := (O + 5)) (pc' := 138) i187_135 o187 gr9_22 (ShModel_k0 hSO) (ShModel_r8 hSO) rfl <| ok_iconst (pc' := 139) i187_138 rfl <| ok_iaload (v := (s 4)) (pc' := 140) i187_139 (ShModel_k5 hSO) (by decide) (ShModel_l5 hSO) (by decide) (RepO_s hRO) rfl <| ?_
    refine ok_cge (pc1 := 160) (pc2 := 143) i187_140 (by omega) rfl rfl (fun h1 => ?_) (fun h9 => by exfalso; omega)
    subst g3
    rw [← g2]
    exact K
def f187_169 (s : Int → Int) (x3 x2 : Int) : Int := (x2 + (s (542 + x3)))
theorem w187_169 {g : AG} {M : AM} {O : Nat} {s q : Int → Int} {b : Int} {x0 x1 : Int} {d : Nat} {Q : AO → AG → AM → Prop} (hSO : ShModel g O) (hRO : RepO M O q s) (hV : Val b q s) (hQ : ValQ q) (h1 : -2147483648 ≤ x1 ∧ x1 < 2147483648)  (K : Ok (d + 2) 187 195 [aR O, aI x1, aI (itv (f187_169 s) x0 1 200), aI 201] [] g M Q) :
    Ok (d + 2) 187 169 [aR O, aI x1, aI x0, aI 1] [] g M Q := by
  have ys3 : 0 ≤ s 3 ∧ s 3 ≤ 80 := V_3 hV
  have ys4 : 0 ≤ s 4 ∧ s 4 ≤ 16 := V_4 hV
  have yq0 : 0 ≤ q 0 ∧ q 0 ≤ 4 := Q_0 hQ
  have yq1 : 0 ≤ q 1 ∧ q 1 ≤ 6 := Q_1 hQ
  refine ok_for (lo := 1) (n := 200) (f := (f187_169 s)) (a0 := x0) (fun x3 x2 ls M9 => M9 = M ∧ (-1 ≤ x3) ∧ ls = [aR O, aI x1, aI x2, aI x3]) ?_ ?_ _ _ ⟨rfl, by omega, rfl⟩
  · rintro x3 x2 ls M9 g1 g2 ⟨hM, hinv, rfl⟩ ih
    rw [hM]
    have g3 : x3 < 201 := by omega
    refine ok_iloadn (pc' := 170) i187_169 rfl rfl <| ok_sipush (v := 200) (pc' := 173) i187_170 rfl rfl <| ?_
    refine ok_cgt (pc1 := 195) (pc2 := 176) i187_173 (by omega) rfl rfl (fun h9 => by exfalso; omega) (fun h1 => ?_)
    refine ok_iloadn (pc' := 177) i187_176 rfl rfl <| ok_aloadn (pc' := 178) i187_177 rfl rfl <| ok_getfr (r := (O + 5)) (pc' := 181) i187_178 o187 gr9_22 (ShModel_k0 hSO) (ShModel_r8 hSO) rfl <| ok_sipush (v := 542) (pc' := 184) i187_181 rfl rfl <| ok_iloadn (pc' := 185) i187_184 rfl rfl <| ok_iadd (v := (542 + x3)) (pc' := 186) i187_185 rfl rfl <| ?_
    have z41 : 0 ≤ s (542 + x3) ∧ s (542 + x3) ≤ 1000000 := V_s hV (i := x3) (by omega) (by omega)
    refine ok_iaload (v := (s (542 + x3))) (pc' := 187) i187_186 (ShModel_k5 hSO) (by decide) (ShModel_l5 hSO) (by omega) (RepO_s hRO) rfl <| ok_iadd (v := (x2 + (s (542 + x3)))) (pc' := 188) i187_187 rfl rfl <| ok_istoren (pc' := 189) (ls' := [aR O, aI x1, aI (x2 + (s (542 + x3))), aI x3]) i187_188 (bt rfl) rfl rfl <| ok_iinc (pc' := 192) (v := (x3 + 1)) (ls' := [aR O, aI x1, aI (x2 + (s (542 + x3))), aI (x3 + 1)]) i187_189 rfl rfl rfl rfl <| ok_goto (pc' := 169) i187_192 rfl <| ?_
    have e : f187_169 s x3 x2 = (x2 + (s (542 + x3))) := by unfold f187_169; rfl
    exact ih _ _ ⟨rfl, by first | omega | (rw [e]; omega), by rw [e]⟩
  · rintro x3 x2 ls M9 g1 g2 ⟨hM, hinv, rfl⟩
    rw [hM]
    have g3 : x3 = 201 := by omega
    refine ok_iloadn (pc' := 170) i187_169 rfl rfl <| ok_sipush (v := 200) (pc' := 173) i187_170 rfl rfl <| ?_
    refine ok_cgt (pc1 := 195) (pc2 := 176) i187_173 (by omega) rfl rfl (fun h1 => ?_) (fun h9 => by exfalso; omega)
    subst g3
    rw [← g2]
    exact K
theorem w118_8 {g : AG} {M : AM} {Y P A V T K H X : Nat} {q s : Int → Int} {b : Int} {x0 : Int} {d : Nat} {Q : AO → AG → AM → Prop} (hSY : ShYard g Y P A V T K H X) (hSV : ShWorks g V P A) (hSP : ShPlan g P) (hSA : ShState g A) (hRP : RepP M P q) (hRA : RepS M A s) (hQ : ValQ q) (hV : Val b q s)  (K : Ok (d + 1) 118 39 [aR Y, aI (itv (f215_13 s) x0 0 ((s 3).toNat)), aI (s 3)] [] g M Q) :
    Ok (d + 1) 118 8 [aR Y, aI x0, aI 0] [] g M Q := by
  have yq0 : 0 ≤ q 0 ∧ q 0 ≤ 4 := Q_0 hQ
  have yq1 : 0 ≤ q 1 ∧ q 1 ≤ 6 := Q_1 hQ
  have ys3 : 0 ≤ s 3 ∧ s 3 ≤ 80 := V_3 hV
  have ys4 : 0 ≤ s 4 ∧ s 4 ≤ 16 := V_4 hV
  refine ok_for (lo := 0) (n := (s 3).toNat) (f := (f215_13 s)) (a0 := x0) (fun x2 x1 ls M9 => M9 = M ∧ (-1 ≤ x2) ∧ ls = [aR Y, aI x1, aI x2]) ?_ ?_ _ _ ⟨rfl, by omega, rfl⟩
  · rintro x2 x1 ls M9 g1 g2 ⟨hM, hinv, rfl⟩ ih
    rw [hM]
    have g3 : x2 < (s 3) := by omega
    refine ok_iloadn (pc' := 9) i118_8 rfl rfl <| ok_aloadn (pc' := 10) i118_9 rfl rfl <| ok_getfr (r := A) (pc' := 13) i118_10 o118 gr0_39 (ShYard_k0 hSY) (ShYard_r8 hSY) rfl <| ok_getfi (v := (s 3)) (pc' := 16) i118_13 o118 gi0_129 (ShState_k0 hSA) (RepS_f2 hRA) rfl <| ?_
    refine ok_cge (pc1 := 39) (pc2 := 19) i118_16 (by omega) rfl rfl (fun h9 => by exfalso; omega) (fun h1 => ?_)
    refine ok_iloadn (pc' := 20) i118_19 rfl rfl <| ok_aloadn (pc' := 21) i118_20 rfl rfl <| ok_getfr (r := A) (pc' := 24) i118_21 o118 gr0_39 (ShYard_k0 hSY) (ShYard_r8 hSY) rfl <| ok_getfr (r := (A + 2)) (pc' := 27) i118_24 o118 gr0_176 (ShState_k0 hSA) (ShState_r3 hSA) rfl <| ok_iconst (pc' := 28) i118_27 rfl <| ok_aaload (r := (A + 4)) (pc' := 29) i118_28 (ShState_k2 hSA) (by decide) (ShState_l2 hSA) (by decide) (ShState_e2_1 hSA) rfl <| ok_iloadn (pc' := 30) i118_29 rfl rfl <| ?_
    have z41 : 0 ≤ s (94 + x2) ∧ s (94 + x2) ≤ 200 := V_d1 hV (i := x2) (by omega) (by omega)
    refine ok_iaload (v := (s (94 + x2))) (pc' := 31) i118_30 (ShState_k4 hSA) (by decide) (ShState_l4 hSA) (by omega) (RepS_4 hRA (by omega) (by omega)) rfl <| ok_iadd (v := (x1 + (s (94 + x2)))) (pc' := 32) i118_31 rfl rfl <| ok_istoren (pc' := 33) (ls' := [aR Y, aI (x1 + (s (94 + x2))), aI x2]) i118_32 (bt rfl) rfl rfl <| ok_iinc (pc' := 36) (v := (x2 + 1)) (ls' := [aR Y, aI (x1 + (s (94 + x2))), aI (x2 + 1)]) i118_33 rfl rfl rfl rfl <| ok_goto (pc' := 8) i118_36 rfl <| ?_
    have e : f215_13 s x2 x1 = (x1 + (s (94 + x2))) := by unfold f215_13; rfl
    exact ih _ _ ⟨rfl, by first | omega | (rw [e]; omega), by rw [e]⟩
  · rintro x2 x1 ls M9 g1 g2 ⟨hM, hinv, rfl⟩
    rw [hM]
    have g3 : x2 = (s 3) := by omega
    refine ok_iloadn (pc' := 9) i118_8 rfl rfl <| ok_aloadn (pc' := 10) i118_9 rfl rfl <| ok_getfr (r := A) (pc' := 13) i118_10 o118 gr0_39 (ShYard_k0 hSY) (ShYard_r8 hSY) rfl <| ok_getfi (v := (s 3)) (pc' := 16) i118_13 o118 gi0_129 (ShState_k0 hSA) (RepS_f2 hRA) rfl <| ?_
    refine ok_cge (pc1 := 39) (pc2 := 19) i118_16 (by omega) rfl rfl (fun h1 => ?_) (fun h9 => by exfalso; omega)
    subst g3
    rw [← g2]
    exact K
theorem w119_8 {g : AG} {M : AM} {Y P A V T K H X : Nat} {q s : Int → Int} {b : Int} {x0 : Int} {d : Nat} {Q : AO → AG → AM → Prop} (hSY : ShYard g Y P A V T K H X) (hSV : ShWorks g V P A) (hSP : ShPlan g P) (hSA : ShState g A) (hRP : RepP M P q) (hRA : RepS M A s) (hQ : ValQ q) (hV : Val b q s)  (K : Ok (d + 1) 119 48 [aR Y, aI (itv (f216_13 s q) x0 0 ((s 3).toNat)), aI (s 3)] [] g M Q) :
    Ok (d + 1) 119 8 [aR Y, aI x0, aI 0] [] g M Q := by
  have yq0 : 0 ≤ q 0 ∧ q 0 ≤ 4 := Q_0 hQ
  have yq1 : 0 ≤ q 1 ∧ q 1 ≤ 6 := Q_1 hQ
  have ys3 : 0 ≤ s 3 ∧ s 3 ≤ 80 := V_3 hV
  have ys4 : 0 ≤ s 4 ∧ s 4 ≤ 16 := V_4 hV
  refine ok_for (lo := 0) (n := (s 3).toNat) (f := (f216_13 s q)) (a0 := x0) (fun x2 x1 ls M9 => M9 = M ∧ (-1 ≤ x2) ∧ ls = [aR Y, aI x1, aI x2]) ?_ ?_ _ _ ⟨rfl, by omega, rfl⟩
  · rintro x2 x1 ls M9 g1 g2 ⟨hM, hinv, rfl⟩ ih
    rw [hM]
    have g3 : x2 < (s 3) := by omega
    refine ok_iloadn (pc' := 9) i119_8 rfl rfl <| ok_aloadn (pc' := 10) i119_9 rfl rfl <| ok_getfr (r := A) (pc' := 13) i119_10 o119 gr0_39 (ShYard_k0 hSY) (ShYard_r8 hSY) rfl <| ok_getfi (v := (s 3)) (pc' := 16) i119_13 o119 gi0_129 (ShState_k0 hSA) (RepS_f2 hRA) rfl <| ?_
    refine ok_cge (pc1 := 48) (pc2 := 19) i119_16 (by omega) rfl rfl (fun h9 => by exfalso; omega) (fun h1 => ?_)
    refine ok_iloadn (pc' := 20) i119_19 rfl rfl <| ok_aloadn (pc' := 21) i119_20 rfl rfl <| ok_getfr (r := A) (pc' := 24) i119_21 o119 gr0_39 (ShYard_k0 hSY) (ShYard_r8 hSY) rfl <| ok_getfr (r := (A + 2)) (pc' := 27) i119_24 o119 gr0_176 (ShState_k0 hSA) (ShState_r3 hSA) rfl <| ok_iconst (pc' := 28) i119_27 rfl <| ok_aaload (r := (A + 4)) (pc' := 29) i119_28 (ShState_k2 hSA) (by decide) (ShState_l2 hSA) (by decide) (ShState_e2_1 hSA) rfl <| ok_iloadn (pc' := 30) i119_29 rfl rfl <| ?_
    have z41 : 0 ≤ s (94 + x2) ∧ s (94 + x2) ≤ 200 := V_d1 hV (i := x2) (by omega) (by omega)
    refine ok_iaload (v := (s (94 + x2))) (pc' := 31) i119_30 (ShState_k4 hSA) (by decide) (ShState_l4 hSA) (by omega) (RepS_4 hRA (by omega) (by omega)) rfl <| ok_aloadn (pc' := 32) i119_31 rfl rfl <| ok_getfr (r := V) (pc' := 35) i119_32 o119 gr0_48 (ShYard_k0 hSY) (ShYard_r9 hSY) rfl <| ok_iloadn (pc' := 36) i119_35 rfl rfl <| ok_cc i119_36 rfl (cl_v o119 m0_223 na36 rfl rfl (bt rfl) (bt rfl) rfl (by rw [ShWorks_k0 hSV, o36])) ln36 (pd36 (aR V) (aI x2)) <| ok_aloadn (pc' := 1) i36_0 rfl rfl <| ok_getfr (r := P) (pc' := 4) i36_1 o36 gr8_9 (ShWorks_k0 hSV) (ShWorks_r0 hSV) rfl <| ok_getfr (r := (P + 2)) (pc' := 7) i36_4 o36 gr8_19 (ShPlan_k0 hSP) (ShPlan_r2 hSP) rfl <| ?_
    refine ok_aloadn (pc' := 8) i36_7 rfl rfl <| ok_getfr (r := A) (pc' := 11) i36_8 o36 gr8_15 (ShWorks_k0 hSV) (ShWorks_r1 hSV) rfl <| ok_getfr (r := (A + 2)) (pc' := 14) i36_11 o36 gr8_25 (ShState_k0 hSA) (ShState_r3 hSA) rfl <| ok_iconst (pc' := 15) i36_14 rfl <| ok_aaload (r := (A + 3)) (pc' := 16) i36_15 (ShState_k2 hSA) (by decide) (ShState_l2 hSA) (by decide) (ShState_e2_0 hSA) rfl <| ok_iloadn (pc' := 17) i36_16 rfl rfl <| ?_
    have z42 : 0 ≤ s (14 + x2) ∧ s (14 + x2) < q 0 := V_d0 hV (i := x2) (by omega) (by omega)
    refine ok_iaload (v := (s (14 + x2))) (pc' := 18) i36_17 (ShState_k3 hSA) (by decide) (ShState_l3 hSA) (by omega) (RepS_3 hRA (by omega) (by omega)) rfl <| ?_
    have z43 : 1 ≤ q (6 + (s (14 + x2))) ∧ q (6 + (s (14 + x2))) ≤ 99 := Q_6 hQ (i := (s (14 + x2))) (by omega) (by omega)
    refine ok_iaload (v := (q (6 + (s (14 + x2))))) (pc' := 19) i36_18 (ShPlan_k2 hSP) (by decide) (ShPlan_l2 hSP) (by omega) (RepP_2 hRP (by omega) (by omega)) rfl <| ok_ireti i36_19 rt36 <| kt_v (pc' := 39) rfl <| ok_imul (v := ((s (94 + x2)) * (q (6 + (s (14 + x2)))))) (pc' := 40) i119_39 rfl rfl <| ok_iadd (v := (x1 + ((s (94 + x2)) * (q (6 + (s (14 + x2))))))) (pc' := 41) i119_40 rfl rfl <| ok_istoren (pc' := 42) (ls' := [aR Y, aI (x1 + ((s (94 + x2)) * (q (6 + (s (14 + x2)))))), aI x2]) i119_41 (bt rfl) rfl rfl <| ok_iinc (pc' := 45) (v := (x2 + 1)) (ls' := [aR Y, aI (x1 + ((s (94 + x2)) * (q (6 + (s (14 + x2)))))), aI (x2 + 1)]) i119_42 rfl rfl rfl rfl <| ok_goto (pc' := 8) i119_45 rfl <| ?_
    have e : f216_13 s q x2 x1 = (x1 + ((s (94 + x2)) * (q (6 + (s (14 + x2)))))) := by unfold f216_13; rfl
    exact ih _ _ ⟨rfl, by first | omega | (rw [e]; omega), by rw [e]⟩
  · rintro x2 x1 ls M9 g1 g2 ⟨hM, hinv, rfl⟩
    rw [hM]
    have g3 : x2 = (s 3) := by omega
    refine ok_iloadn (pc' := 9) i119_8 rfl rfl <| ok_aloadn (pc' := 10) i119_9 rfl rfl <| ok_getfr (r := A) (pc' := 13) i119_10 o119 gr0_39 (ShYard_k0 hSY) (ShYard_r8 hSY) rfl <| ok_getfi (v := (s 3)) (pc' := 16) i119_13 o119 gi0_129 (ShState_k0 hSA) (RepS_f2 hRA) rfl <| ?_
    refine ok_cge (pc1 := 48) (pc2 := 19) i119_16 (by omega) rfl rfl (fun h1 => ?_) (fun h9 => by exfalso; omega)
    subst g3
    rw [← g2]
    exact K
theorem w121_8 {g : AG} {M : AM} {Y P A V T K H X : Nat} {q s : Int → Int} {b : Int} {x0 : Int} {d : Nat} {Q : AO → AG → AM → Prop} (hSY : ShYard g Y P A V T K H X) (hSV : ShWorks g V P A) (hSP : ShPlan g P) (hSA : ShState g A) (hRP : RepP M P q) (hRA : RepS M A s) (hQ : ValQ q) (hV : Val b q s)  (K : Ok (d + 1) 121 60 [aR Y, aI (itv (f219_13 s) x0 0 ((s 4).toNat)), aI (s 4)] [] g M Q) :
    Ok (d + 1) 121 8 [aR Y, aI x0, aI 0] [] g M Q := by
  have yq0 : 0 ≤ q 0 ∧ q 0 ≤ 4 := Q_0 hQ
  have yq1 : 0 ≤ q 1 ∧ q 1 ≤ 6 := Q_1 hQ
  have ys3 : 0 ≤ s 3 ∧ s 3 ≤ 80 := V_3 hV
  have ys4 : 0 ≤ s 4 ∧ s 4 ≤ 16 := V_4 hV
  refine ok_for (lo := 0) (n := (s 4).toNat) (f := (f219_13 s)) (a0 := x0) (fun x2 x1 ls M9 => M9 = M ∧ (-1 ≤ x2) ∧ ls = [aR Y, aI x1, aI x2]) ?_ ?_ _ _ ⟨rfl, by omega, rfl⟩
  · rintro x2 x1 ls M9 g1 g2 ⟨hM, hinv, rfl⟩ ih
    rw [hM]
    have g3 : x2 < (s 4) := by omega
    refine ok_iloadn (pc' := 9) i121_8 rfl rfl <| ok_aloadn (pc' := 10) i121_9 rfl rfl <| ok_getfr (r := A) (pc' := 13) i121_10 o121 gr0_39 (ShYard_k0 hSY) (ShYard_r8 hSY) rfl <| ok_getfi (v := (s 4)) (pc' := 16) i121_13 o121 gi0_138 (ShState_k0 hSA) (RepS_f4 hRA) rfl <| ?_
    refine ok_cge (pc1 := 60) (pc2 := 19) i121_16 (by omega) rfl rfl (fun h9 => by exfalso; omega) (fun h1 => ?_)
    refine ok_aloadn (pc' := 20) i121_19 rfl rfl <| ok_getfr (r := A) (pc' := 23) i121_20 o121 gr0_39 (ShYard_k0 hSY) (ShYard_r8 hSY) rfl <| ok_getfr (r := (A + 8)) (pc' := 26) i121_23 o121 gr0_183 (ShState_k0 hSA) (ShState_r5 hSA) rfl <| ok_iconst (pc' := 27) i121_26 rfl <| ok_aaload (r := (A + 12)) (pc' := 28) i121_27 (ShState_k8 hSA) (by decide) (ShState_l8 hSA) (by decide) (ShState_e8_3 hSA) rfl <| ok_iloadn (pc' := 29) i121_28 rfl rfl <| ?_
    have z41 : 0 ≤ s ((414 + (8 * x2)) + 3) ∧ s ((414 + (8 * x2)) + 3) ≤ 999 := V_o3 hV (i := x2) (by omega) (by omega)
    refine ok_iaload (v := (s ((414 + (8 * x2)) + 3))) (pc' := 30) i121_29 (ShState_k12 hSA) (by decide) (ShState_l12 hSA) (by omega) (RepS_12 hRA (by omega) (by omega)) rfl <| ok_aloadn (pc' := 31) i121_30 rfl rfl <| ok_getfr (r := A) (pc' := 34) i121_31 o121 gr0_39 (ShYard_k0 hSY) (ShYard_r8 hSY) rfl <| ?_
    have z42 : 0 ≤ s 0 ∧ s 0 ≤ 1000000 := V_0 hV
    refine ok_getfi (v := (s 0)) (pc' := 37) i121_34 o121 gi0_200 (ShState_k0 hSA) (RepS_f0 hRA) rfl <| ?_
    refine ok_cge (pc1 := 54) (pc2 := 40) i121_37 (by omega) rfl rfl (fun h2 => ?_) (fun h2 => ?_)
    · refine ok_iinc (pc' := 57) (v := (x2 + 1)) (ls' := [aR Y, aI x1, aI (x2 + 1)]) i121_54 rfl rfl rfl rfl <| ok_goto (pc' := 8) i121_57 rfl <| ?_
      have e : f219_13 s x2 x1 = x1 := by unfold f219_13; rw [if_pos h2]
      exact ih _ _ ⟨rfl, by first | omega | (rw [e]; omega), by rw [e]⟩
    · refine ok_iloadn (pc' := 41) i121_40 rfl rfl <| ok_aloadn (pc' := 42) i121_41 rfl rfl <| ok_getfr (r := A) (pc' := 45) i121_42 o121 gr0_39 (ShYard_k0 hSY) (ShYard_r8 hSY) rfl <| ok_getfr (r := (A + 8)) (pc' := 48) i121_45 o121 gr0_183 (ShState_k0 hSA) (ShState_r5 hSA) rfl <| ok_iconst (pc' := 49) i121_48 rfl <| ok_aaload (r := (A + 13)) (pc' := 50) i121_49 (ShState_k8 hSA) (by decide) (ShState_l8 hSA) (by decide) (ShState_e8_4 hSA) rfl <| ok_iloadn (pc' := 51) i121_50 rfl rfl <| ?_
      have z43 : 0 ≤ s ((414 + (8 * x2)) + 4) ∧ s ((414 + (8 * x2)) + 4) ≤ 9 := V_o4 hV (i := x2) (by omega) (by omega)
      refine ok_iaload (v := (s ((414 + (8 * x2)) + 4))) (pc' := 52) i121_51 (ShState_k13 hSA) (by decide) (ShState_l13 hSA) (by omega) (RepS_13 hRA (by omega) (by omega)) rfl <| ok_iadd (v := (x1 + (s ((414 + (8 * x2)) + 4)))) (pc' := 53) i121_52 rfl rfl <| ok_istoren (pc' := 54) (ls' := [aR Y, aI (x1 + (s ((414 + (8 * x2)) + 4))), aI x2]) i121_53 (bt rfl) rfl rfl <| ok_iinc (pc' := 57) (v := (x2 + 1)) (ls' := [aR Y, aI (x1 + (s ((414 + (8 * x2)) + 4))), aI (x2 + 1)]) i121_54 rfl rfl rfl rfl <| ok_goto (pc' := 8) i121_57 rfl <| ?_
      have e : f219_13 s x2 x1 = (x1 + (s ((414 + (8 * x2)) + 4))) := by unfold f219_13; rw [if_neg (by omega)]
      exact ih _ _ ⟨rfl, by first | omega | (rw [e]; omega), by rw [e]⟩
  · rintro x2 x1 ls M9 g1 g2 ⟨hM, hinv, rfl⟩
    rw [hM]
    have g3 : x2 = (s 4) := by omega
    refine ok_iloadn (pc' := 9) i121_8 rfl rfl <| ok_aloadn (pc' := 10) i121_9 rfl rfl <| ok_getfr (r := A) (pc' := 13) i121_10 o121 gr0_39 (ShYard_k0 hSY) (ShYard_r8 hSY) rfl <| ok_getfi (v := (s 4)) (pc' := 16) i121_13 o121 gi0_138 (ShState_k0 hSA) (RepS_f4 hRA) rfl <| ?_
    refine ok_cge (pc1 := 60) (pc2 := 19) i121_16 (by omega) rfl rfl (fun h1 => ?_) (fun h9 => by exfalso; omega)
    subst g3
    rw [← g2]
    exact K
def f125_8 (q s : Int → Int) (x2 x1 : Int) : Int := (if (r39 q s x2) = 0 then x1 else (am_or x1 (am_shl 1 x2)))
theorem w125_8 {g : AG} {M : AM} {Y P A V T K H X : Nat} {q s : Int → Int} {b : Int} {x0 : Int} {d : Nat} {Q : AO → AG → AM → Prop} (hSY : ShYard g Y P A V T K H X) (hSV : ShWorks g V P A) (hSP : ShPlan g P) (hSA : ShState g A) (hRP : RepP M P q) (hRA : RepS M A s) (hQ : ValQ q) (hV : Val b q s)  (K : Ok (d + 2) 125 42 [aR Y, aI (itv (f125_8 q s) x0 0 ((q 1).toNat)), aI (q 1)] [] g M Q) :
    Ok (d + 2) 125 8 [aR Y, aI x0, aI 0] [] g M Q := by
  have yq0 : 0 ≤ q 0 ∧ q 0 ≤ 4 := Q_0 hQ
  have yq1 : 0 ≤ q 1 ∧ q 1 ≤ 6 := Q_1 hQ
  have ys3 : 0 ≤ s 3 ∧ s 3 ≤ 80 := V_3 hV
  have ys4 : 0 ≤ s 4 ∧ s 4 ≤ 16 := V_4 hV
  refine ok_for (lo := 0) (n := (q 1).toNat) (f := (f125_8 q s)) (a0 := x0) (fun x2 x1 ls M9 => M9 = M ∧ (-1 ≤ x2) ∧ ls = [aR Y, aI x1, aI x2]) ?_ ?_ _ _ ⟨rfl, by omega, rfl⟩
  · rintro x2 x1 ls M9 g1 g2 ⟨hM, hinv, rfl⟩ ih
    rw [hM]
    have g3 : x2 < (q 1) := by omega
    refine ok_iloadn (pc' := 9) i125_8 rfl rfl <| ok_aloadn (pc' := 10) i125_9 rfl rfl <| ok_getfr (r := P) (pc' := 13) i125_10 o125 gr0_32 (ShYard_k0 hSY) (ShYard_r7 hSY) rfl <| ok_getfi (v := (q 1)) (pc' := 16) i125_13 o125 gi0_141 (ShPlan_k0 hSP) (RepP_f3 hRP) rfl <| ?_
    refine ok_cge (pc1 := 42) (pc2 := 19) i125_16 (by omega) rfl rfl (fun h9 => by exfalso; omega) (fun h1 => ?_)
    refine ok_aloadn (pc' := 20) i125_19 rfl rfl <| ok_getfr (r := V) (pc' := 23) i125_20 o125 gr0_48 (ShYard_k0 hSY) (ShYard_r9 hSY) rfl <| ok_iloadn (pc' := 24) i125_23 rfl rfl <| ok_cp (pc' := 27) (d0 := 1) i125_24 rfl (cl_v o125 m0_235 na39 rfl rfl (bt rfl) (bt rfl) rfl (by rw [ShWorks_k0 hSV, o39])) ln39 (pd39 (aR V) (aI x2)) (by omega) (t39 (x1 := x2) hSV hSP hSA hRP hRA hQ hV (by omega)) rfl <| ?_
    have z41 : 0 ≤ (r39 q s x2) ∧ (r39 q s x2) ≤ 1 := x39 (M := M) (x1 := x2) hSV hSP hSA hRP hRA hQ hV (by omega)
    refine ok_zeq (pc1 := 36) (pc2 := 30) i125_27 (by omega) rfl rfl (fun h2 => ?_) (fun h2 => ?_)
    · refine ok_iinc (pc' := 39) (v := (x2 + 1)) (ls' := [aR Y, aI x1, aI (x2 + 1)]) i125_36 rfl rfl rfl rfl <| ok_goto (pc' := 8) i125_39 rfl <| ?_
      have e : f125_8 q s x2 x1 = x1 := by unfold f125_8; rw [if_pos h2]
      exact ih _ _ ⟨rfl, by first | omega | (rw [e]; omega), by rw [e]⟩
    · refine ok_iloadn (pc' := 31) i125_30 rfl rfl <| ok_iconst (pc' := 32) i125_31 rfl <| ok_iloadn (pc' := 33) i125_32 rfl rfl <| ok_ishl (v := (am_shl 1 x2)) (pc' := 34) i125_33 rfl rfl <| ok_ior (v := (am_or x1 (am_shl 1 x2))) (pc' := 35) i125_34 rfl rfl <| ok_istoren (pc' := 36) (ls' := [aR Y, aI (am_or x1 (am_shl 1 x2)), aI x2]) i125_35 (bt rfl) rfl rfl <| ok_iinc (pc' := 39) (v := (x2 + 1)) (ls' := [aR Y, aI (am_or x1 (am_shl 1 x2)), aI (x2 + 1)]) i125_36 rfl rfl rfl rfl <| ok_goto (pc' := 8) i125_39 rfl <| ?_
      have e : f125_8 q s x2 x1 = (am_or x1 (am_shl 1 x2)) := by unfold f125_8; rw [if_neg (by omega)]
      exact ih _ _ ⟨rfl, by first | omega | (rw [e]; omega), by rw [e]⟩
  · rintro x2 x1 ls M9 g1 g2 ⟨hM, hinv, rfl⟩
    rw [hM]
    have g3 : x2 = (q 1) := by omega
    refine ok_iloadn (pc' := 9) i125_8 rfl rfl <| ok_aloadn (pc' := 10) i125_9 rfl rfl <| ok_getfr (r := P) (pc' := 13) i125_10 o125 gr0_32 (ShYard_k0 hSY) (ShYard_r7 hSY) rfl <| ok_getfi (v := (q 1)) (pc' := 16) i125_13 o125 gi0_141 (ShPlan_k0 hSP) (RepP_f3 hRP) rfl <| ?_
    refine ok_cge (pc1 := 42) (pc2 := 19) i125_16 (by omega) rfl rfl (fun h1 => ?_) (fun h9 => by exfalso; omega)
    subst g3
    rw [← g2]
    exact K
theorem i32_rg (x : Int32) : -2147483648 ≤ x.toInt ∧ x.toInt < 2147483648 := ⟨Int32.minValue_le_toInt x, Int.lt_of_le_of_lt (Int32.toInt_le x) (by decide)⟩
theorem am_or_0 {x : Int} (h : -2147483648 ≤ x ∧ x < 2147483648) : am_or x 0 = x := by
  unfold am_or
  rw [show Int32.ofInt 0 = 0 from rfl, Int32.or_zero]
  exact Int32.toInt_ofInt_of_le (by omega) (by omega)
theorem e_226 {q s : Int → Int} (n : Nat) : itv (f125_8 q s) 0 0 n = itv (f226_13 s q) 0 0 n := by
  refine itv_eq (fun _ a => -2147483648 ≤ a ∧ a < 2147483648) (by decide) n (fun i a h0 h1 h2 => ?_)
  unfold f125_8 f226_13
  split
  · rw [am_or_0 h2]
    exact ⟨rfl, h2⟩
  · exact ⟨rfl, i32_rg _⟩

