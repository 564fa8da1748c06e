/-! THE LAW'S CASES: CHANGES, MORE (by program, wip/gen) -/
theorem rt314 : am_rt 314 = some .int := by decide +kernel
theorem hf315_4_10 : am_find 315 4 10 (am_hh 315) = some (15, 13) := by decide +kernel
theorem hr315_15 : am_hret 315 15 = some 2 := by decide +kernel
theorem rt315 : am_rt 315 = some .int := by decide +kernel
theorem hf305_5_10 : am_find 305 5 10 (am_hh 305) = some (17, 13) := by decide +kernel
theorem hr305_17 : am_hret 305 17 = some 2 := by decide +kernel
theorem hf305_5_11 : am_find 305 5 11 (am_hh 305) = some (21, 15) := by decide +kernel
theorem hr305_21 : am_hret 305 21 = some 3 := by decide +kernel
theorem m0_253 : am_mlk 0 253 0 55 = true := by decide +kernel
theorem na55 : am_na 55 = 2 := by decide +kernel
theorem nl55 : am_nL 55 = 3 := by decide +kernel
theorem pd55 : ∀ a0 a1 a2 : AV, am_pad 55 [a0, a1, a2] = [a0, a1, a2] := by intros; unfold am_pad; rw [nl55]; rfl
theorem ln55 : 3 ≤ am_nL 55 := by rw [nl55]; decide
theorem rt130 : am_rt 130 = some .int := by decide +kernel
theorem rt305 : am_rt 305 = some .int := by decide +kernel
theorem m13_354 : am_mlk 13 354 1 326 = true := by decide +kernel
theorem na326 : am_na 326 = 2 := by decide +kernel
theorem nl326 : am_nL 326 = 3 := by decide +kernel
theorem pd326 : ∀ a0 a1 : AV, am_pad 326 [a0, a1] = [a0, a1, aU] := by intros; unfold am_pad; rw [nl326]; rfl
theorem ln326 : 2 ≤ am_nL 326 := by rw [nl326]; decide
theorem o326 : am_oc 326 = 13 := by decide +kernel
theorem m13_164 : am_mlk 13 164 0 152 = true := by decide +kernel
theorem na152 : am_na 152 = 0 := by decide +kernel
theorem nl152 : am_nL 152 = 1 := by decide +kernel
theorem pd152 : ∀ a0 : AV, am_pad 152 [a0] = [a0] := by intros; unfold am_pad; rw [nl152]; rfl
theorem ln152 : 1 ≤ am_nL 152 := by rw [nl152]; decide
theorem o152 : am_oc 152 = 0 := by decide +kernel
theorem gi0_343 : am_gfi 0 343 1 2 = true := by decide +kernel
theorem th152_10 : am_thk 152 10 12 = true := by decide +kernel
theorem hn326 : am_hh 326 ≠ [] := by decide +kernel
theorem hf326_3_12 : am_find 326 3 12 (am_hh 326) = some (11, 20) := by decide +kernel
theorem hr326_11 : am_hret 326 11 = some 1 := by decide +kernel
theorem m13_356 : am_mlk 13 356 0 276 = true := by decide +kernel
theorem na276 : am_na 276 = 0 := by decide +kernel
theorem nl276 : am_nL 276 = 1 := by decide +kernel
theorem pd276 : ∀ a0 : AV, am_pad 276 [a0] = [a0] := by intros; unfold am_pad; rw [nl276]; rfl
theorem ln276 : 1 ≤ am_nL 276 := by rw [nl276]; decide
theorem o276 : am_oc 276 = 9 := by decide +kernel
theorem pi276_63 : am_pfi 276 9 63 9 0 = true := by decide +kernel
theorem rt276 : am_rt 276 = some .int := by decide +kernel
theorem m0_349 : am_mlk 0 349 0 65 = true := by decide +kernel
theorem na65 : am_na 65 = 1 := by decide +kernel
theorem nl65 : am_nL 65 = 2 := by decide +kernel
theorem pd65 : ∀ a0 a1 : AV, am_pad 65 [a0, a1] = [a0, a1] := by intros; unfold am_pad; rw [nl65]; rfl
theorem ln65 : 2 ≤ am_nL 65 := by rw [nl65]; decide
theorem rt152 : am_rt 152 = some .int := by decide +kernel
theorem rt326 : am_rt 326 = some .int := by decide +kernel
theorem pi276_213 : am_pfi 276 9 213 9 10 = true := by decide +kernel
theorem m13_357 : am_mlk 13 357 0 95 = true := by decide +kernel
theorem na95 : am_na 95 = 0 := by decide +kernel
theorem nl95 : am_nL 95 = 1 := by decide +kernel
theorem pd95 : ∀ a0 : AV, am_pad 95 [a0] = [a0] := by intros; unfold am_pad; rw [nl95]; rfl
theorem ln95 : 1 ≤ am_nL 95 := by rw [nl95]; decide
theorem o95 : am_oc 95 = 0 := by decide +kernel
theorem rt95 : am_rt 95 = some .int := by decide +kernel
theorem m13_360 : am_mlk 13 360 0 259 = true := by decide +kernel
theorem na259 : am_na 259 = 0 := by decide +kernel
theorem nl259 : am_nL 259 = 1 := by decide +kernel
theorem pd259 : ∀ a0 : AV, am_pad 259 [a0] = [a0] := by intros; unfold am_pad; rw [nl259]; rfl
theorem ln259 : 1 ≤ am_nL 259 := by rw [nl259]; decide
theorem o259 : am_oc 259 = 9 := by decide +kernel
theorem rt259 : am_rt 259 = some .int := by decide +kernel
theorem m13_323 : am_mlk 13 323 1 316 = true := by decide +kernel
theorem na316 : am_na 316 = 3 := by decide +kernel
theorem nl316 : am_nL 316 = 4 := by decide +kernel
theorem pd316 : ∀ a0 a1 a2 : AV, am_pad 316 [a0, a1, a2] = [a0, a1, a2, aU] := by intros; unfold am_pad; rw [nl316]; rfl
theorem ln316 : 3 ≤ am_nL 316 := by rw [nl316]; decide
theorem o316 : am_oc 316 = 13 := by decide +kernel
theorem m13_133 : am_mlk 13 133 0 142 = true := by decide +kernel
theorem na142 : am_na 142 = 1 := by decide +kernel
theorem nl142 : am_nL 142 = 2 := by decide +kernel
theorem pd142 : ∀ a0 a1 : AV, am_pad 142 [a0, a1] = [a0, a1] := by intros; unfold am_pad; rw [nl142]; rfl
theorem ln142 : 2 ≤ am_nL 142 := by rw [nl142]; decide
theorem o142 : am_oc 142 = 0 := by decide +kernel
theorem th142_15 : am_thk 142 15 10 = true := by decide +kernel
theorem hn316 : am_hh 316 ≠ [] := by decide +kernel
theorem hf316_4_10 : am_find 316 4 10 (am_hh 316) = some (12, 13) := by decide +kernel
theorem hr316_12 : am_hret 316 12 = some 1 := by decide +kernel
theorem m13_325 : am_mlk 13 325 0 265 = true := by decide +kernel
theorem na265 : am_na 265 = 1 := by decide +kernel
theorem nl265 : am_nL 265 = 2 := by decide +kernel
theorem pd265 : ∀ a0 a1 : AV, am_pad 265 [a0, a1] = [a0, a1] := by intros; unfold am_pad; rw [nl265]; rfl
theorem ln265 : 2 ≤ am_nL 265 := by rw [nl265]; decide
theorem o265 : am_oc 265 = 9 := by decide +kernel
theorem pi265_63 : am_pfi 265 9 63 9 0 = true := by decide +kernel
theorem rt265 : am_rt 265 = some .int := by decide +kernel
theorem gr0_300 : am_gfr 0 300 6 0 = true := by decide +kernel
theorem rt142 : am_rt 142 = some .int := by decide +kernel
theorem rt316 : am_rt 316 = some .int := by decide +kernel
theorem m0_352 : am_mlk 0 352 1 154 = true := by decide +kernel
theorem na154 : am_na 154 = 1 := by decide +kernel
theorem nl154 : am_nL 154 = 1 := by decide +kernel
theorem pd154 : ∀ a0 : AV, am_pad 154 [a0] = [a0] := by intros; unfold am_pad; rw [nl154]; rfl
theorem ln154 : 1 ≤ am_nL 154 := by rw [nl154]; decide
theorem o154 : am_oc 154 = 0 := by decide +kernel
theorem rt154 : am_rt 154 = none := by decide +kernel
theorem gr0_75 : am_gfr 0 75 0 13 = true := by decide +kernel
theorem m0_355 : am_mlk 0 355 0 17 = true := by decide +kernel
theorem gr0_79 : am_gfr 0 79 0 14 = true := by decide +kernel
theorem rt153 : am_rt 153 = some .int := by decide +kernel
theorem rt327 : am_rt 327 = some .int := by decide +kernel
theorem gr9_28 : am_gfr 9 28 9 11 = true := by decide +kernel
theorem m13_364 : am_mlk 13 364 1 328 = true := by decide +kernel
theorem na328 : am_na 328 = 3 := by decide +kernel
theorem nl328 : am_nL 328 = 4 := by decide +kernel
theorem pd328 : ∀ a0 a1 a2 : AV, am_pad 328 [a0, a1, a2] = [a0, a1, a2, aU] := by intros; unfold am_pad; rw [nl328]; rfl
theorem ln328 : 3 ≤ am_nL 328 := by rw [nl328]; decide
theorem o328 : am_oc 328 = 13 := by decide +kernel
theorem m13_170 : am_mlk 13 170 0 155 = true := by decide +kernel
theorem na155 : am_na 155 = 1 := by decide +kernel
theorem nl155 : am_nL 155 = 2 := by decide +kernel
theorem pd155 : ∀ a0 a1 : AV, am_pad 155 [a0, a1] = [a0, a1] := by intros; unfold am_pad; rw [nl155]; rfl
theorem ln155 : 2 ≤ am_nL 155 := by rw [nl155]; decide
theorem o155 : am_oc 155 = 0 := by decide +kernel
theorem th155_13 : am_thk 155 13 12 = true := by decide +kernel
theorem hn328 : am_hh 328 ≠ [] := by decide +kernel
theorem hf328_4_12 : am_find 328 4 12 (am_hh 328) = some (15, 20) := by decide +kernel
theorem hr328_15 : am_hret 328 15 = some 2 := by decide +kernel
theorem m13_366 : am_mlk 13 366 0 278 = true := by decide +kernel
theorem na278 : am_na 278 = 1 := by decide +kernel
theorem nl278 : am_nL 278 = 2 := by decide +kernel
theorem pd278 : ∀ a0 a1 : AV, am_pad 278 [a0, a1] = [a0, a1] := by intros; unfold am_pad; rw [nl278]; rfl
theorem ln278 : 2 ≤ am_nL 278 := by rw [nl278]; decide
theorem o278 : am_oc 278 = 9 := by decide +kernel
theorem pi278_63 : am_pfi 278 9 63 9 0 = true := by decide +kernel
theorem rt278 : am_rt 278 = some .int := by decide +kernel
theorem pi155_343 : am_pfi 155 0 343 1 2 = true := by decide +kernel
theorem rt155 : am_rt 155 = some .int := by decide +kernel
theorem rt328 : am_rt 328 = some .int := by decide +kernel
theorem pi278_213 : am_pfi 278 9 213 9 10 = true := by decide +kernel
theorem th154_9 : am_thk 154 9 10 = true := by decide +kernel
theorem hh155 : am_hh 155 = [] := rfl
theorem hf328_4_10 : am_find 328 4 10 (am_hh 328) = some (12, 13) := by decide +kernel
theorem hr328_12 : am_hret 328 12 = some 1 := by decide +kernel
theorem hf327_4_10 : am_find 327 4 10 (am_hh 327) = some (15, 13) := by decide +kernel
theorem hr327_15 : am_hret 327 15 = some 2 := by decide +kernel
theorem th98_116 : am_thk 98 116 11 = true := by decide +kernel
theorem hf280_4_11 : am_find 280 4 11 (am_hh 280) = some (15, 15) := by decide +kernel
theorem hr280_15 : am_hret 280 15 = some 2 := by decide +kernel
theorem c41_1 {L n : Nat} {g : AG} {M : AM} {xs : Nat → Int32} {b i : Int} {w6 w7 w8 : AV} {Q : AO → AG → AM → Prop} (hD : HD L n g) (hI : Inv xs b M) (hi : 0 ≤ i ∧ i + 6 ≤ L) (hb : 0 ≤ b ∧ b ≤ 900000) (hl : M 100 6 = 1) (K : KK L n i b xs Q) :
    Ok 10 0 2440 [aR 1, aR 100, aR 448, aR 464, aR 465, aI i, w6, w7, w8] [] g M Q := by
  have hI0 := hI
  obtain ⟨hA, hld, hl01, q, hc, ⟨nx, sz, hH, hsz⟩, hS⟩ := hI0
  have hH0 := hH
  obtain ⟨⟨hn1, hn0⟩, ⟨hz2, hz0⟩, h10, hHj⟩ := hH0
  obtain ⟨hw0, ⟨bu, by_, hb1, hb13, hbu, hZ, hU⟩, he3, he4, he5, hId, tx, hT, hUt, htl, htr⟩ := hA
  have htz := hT.2.1
  obtain ⟨s, hP, hRB, hO, hV, hQ, h40⟩ := hc hl
  have ys3 := V_3 hV
  have ys4 := V_4 hV
  have yq0 := Q_0 hQ
  have yq1 := Q_1 hQ
  have hS100 := HD_y hD
  have hS149 := HD_b hD
  have hS446 := HD_x hD
  have hS448 := HD_o hD
  have hS464 := HD_u hD
  refine ok_aloadn (pc' := 2441) i0_2440 rfl rfl <| ok_aloadn (pc' := 2442) i0_2441 rfl rfl <| ok_cc i0_2442 rfl (cl_s o0 m13_317 na314 rfl rfl (bt rfl) (bt rfl) rfl) ln314 (pd314 (aR 100) (aR 464)) <| ok_aloadn (pc' := 1) i314_0 rfl rfl <| ok_iconst (pc' := 2) i314_1 rfl <| ok_aloadn (pc' := 3) i314_2 rfl rfl <| ?_
  refine ok_cn (pc' := 6) (d0 := 3) i314_3 rfl (cl_v o314 m13_127 na139 rfl rfl (bt rfl) (bt rfl) rfl (by rw [ShYard_k0 hS100, o139])) ln139 (pd139 (aR 100)) (by omega) (t139 hS100 hS149 hS446 hRB hV hQ (by omega) h40 hl) rfl (fun M501 p502 => ?_)
  refine ok_i2l (v := (wr ((textR s).1))) (pc' := 7) i314_6 rfl rfl <| ok_lastore (pc' := 8) i314_7 (ShOut_k0 hS464) (ShOut_l0 hS464) (by decide) rfl <| ok_goto (pc' := 14) i314_8 rfl <| ok_iconst (pc' := 15) i314_14 rfl <| ok_ireti i314_15 rt314 <| kt_v (pc' := 2445) rfl <| ok_istore (pc' := 2447) (ls' := [aR 1, aR 100, aR 448, aR 464, aR 465, aI i, aI 0, w7, w8]) i0_2445 (bt rfl) rfl rfl <| ok_aloadn (pc' := 2448) i0_2447 rfl rfl <| ?_
  have hCM501_448 : RepO M501 448 q s := RepO.fr hO ⟨((congrFun (p502.2 448 (by omega)) 2).trans (by rfl)), ((congrFun (p502.2 448 (by omega)) 3).trans (by rfl))⟩ (fun a h1 h2 => (p502.2 a (by omega)).trans rfl)
  refine ok_cn (pc' := 2451) (d0 := 5) i0_2448 rfl (cl_v o0 m13_319 na261 rfl rfl (bt rfl) (bt rfl) rfl (by rw [ShModel_k0 hS448, o261])) ln261 (pd261 (aR 448)) (by omega) (t261 hS448 (RepO.fr hCM501_448 ⟨(by rw [up2_na (by omega)]), (by rw [up2_na (by omega)])⟩ (fun a h1 h2 => (by rw [up2_na (by omega)]))) hV hQ h40 (rd_na (by omega) (Eq.trans (congrFun (p502.2 448 (by omega)) 1) (hld.trans hl)))) rfl (fun M503 p504 => ?_)
  refine ok_istore (pc' := 2453) (ls' := [aR 1, aR 100, aR 448, aR 464, aR 465, aI i, aI 0, aI (textR s).1, w8]) i0_2451 (bt rfl) rfl rfl <| ok_aloadn (pc' := 2454) i0_2453 rfl rfl <| ok_cc i0_2454 rfl (cl_v o0 m13_188 na157 rfl rfl (bt rfl) (bt rfl) rfl (by rw [ShModel_k0 hS448, o157])) ln157 (pd157 (aR 448)) <| ok_aloadn (pc' := 1) i157_0 rfl rfl <| ok_getfi (v := 0) (pc' := 4) i157_1 o157 gi9_63 (ShModel_k0 hS448) p504.2.2.2 rfl <| ok_ireti i157_4 rt157 <| kt_v (pc' := 2457) rfl <| ok_iload (pc' := 2459) i0_2457 rfl rfl <| ?_
  refine ok_kc1 (pc1 := 2464) (pc2 := 2462) i0_2459 (by decide) rfl rfl <| ok_iload (pc' := 2466) i0_2464 rfl rfl <| ok_kz0 (pc1 := 2481) (pc2 := 2469) i0_2466 (by decide) rfl rfl <| ok_aloadn (pc' := 2470) i0_2469 rfl rfl <| ok_iconst (pc' := 2471) i0_2470 rfl <| ok_laload (v := (wr ((textR s).1))) (pc' := 2472) i0_2471 (ShOut_k0 hS464) (ShOut_l0 hS464) (by decide) (Eq.trans (congrFun (p504.2.1 464 (by omega)) 0) rd_eq) rfl <| ok_iload (pc' := 2474) i0_2472 rfl rfl <| ok_i2l (v := (wr ((textR s).1))) (pc' := 2475) i0_2474 rfl rfl <| ?_
  refine ok_lcmp0 (pc' := 2476) i0_2475 rfl <| ok_kz1 (pc1 := 2481) (pc2 := 2479) i0_2476 (by decide) rfl rfl <| ok_goto (pc' := 3329) i0_2481 rfl <| ?_
  exact K _ _ _ _ _ _ hD (by omega) (Inv_mono (Inv_text hI (fun y a1 a2 => by rw [p504.2.2.1 y (by omega), up2_na (by omega), p502.2 448 (by omega)]) (fun c a1 a2 a3 a4 a5 => by rw [p504.2.1 c (by omega), up2_na a5, p502.2 c (by omega)]) (RepT_fr p502.1 (by rw [p504.2.1 446 (by omega), up2_na (by omega)]) (by rw [p504.2.1 (446 + 1) (by omega), up2_na (by omega)])) p504.1 (textR_ok hV h40).1 (textR_ok hV h40).2.2) (by omega))
theorem c42_1 {L n : Nat} {g : AG} {M : AM} {xs : Nat → Int32} {b i : Int} {w6 w7 w8 : AV} {Q : AO → AG → AM → Prop} (hD : HD L n g) (hI : Inv xs b M) (hi : 0 ≤ i ∧ i + 6 ≤ L) (hb : 0 ≤ b ∧ b ≤ 900000) (hl : M 100 6 = 1) (K : KK L n i b xs Q) :
    Ok 10 0 2484 [aR 1, aR 100, aR 448, aR 464, aR 465, aI i, w6, w7, w8] [] g M Q := by
  have hI0 := hI
  obtain ⟨hA, hld, hl01, q, hc, ⟨nx, sz, hH, hsz⟩, hS⟩ := hI0
  have hH0 := hH
  obtain ⟨⟨hn1, hn0⟩, ⟨hz2, hz0⟩, h10, hHj⟩ := hH0
  obtain ⟨hw0, ⟨bu, by_, hb1, hb13, hbu, hZ, hU⟩, he3, he4, he5, hId, tx, hT, hUt, htl, htr⟩ := hA
  have htz := hT.2.1
  obtain ⟨s, hP, hRB, hO, hV, hQ, h40⟩ := hc hl
  have ys3 := V_3 hV
  have ys4 := V_4 hV
  have yq0 := Q_0 hQ
  have yq1 := Q_1 hQ
  obtain ⟨v1, hv1⟩ : ∃ u9 : Int, M 1 (i + 1) = u9 := ⟨_, rfl⟩
  have hr1 : -2147483648 ≤ v1 ∧ v1 < 2147483648 := hv1 ▸ scr_rg hw0 (i + 1)
  have hS1 := HD_s hD
  have hS100 := HD_y hD
  have hS149 := HD_b hD
  have hS446 := HD_x hD
  have hS448 := HD_o hD
  have hS464 := HD_u hD
  have hS465 := HD_ud hD
  have hS24 : ShStr g 24 5 := HD_w15 hD 7 (by decide)
  have hG24 : ∀ j : Int, 0 ≤ j → j < 5 → M 25 j = txg j ∧ 0 ≤ txg j ∧ txg j < 128 := fun j j0 j1 => ⟨by rw [hw0 25 (by decide)]; exact txg_25 j, txg_rg j0 j1⟩
  rcases (show v1 < 0 ∨ s 4 ≤ v1 ∨ (0 ≤ v1 ∧ v1 < s 4) by omega) with hx | hx | hx
  · refine ok_aloadn (pc' := 2485) i0_2484 rfl rfl <| ok_aloadn (pc' := 2486) i0_2485 rfl rfl <| ok_iload (pc' := 2488) i0_2486 rfl rfl <| ok_iconst (pc' := 2489) i0_2488 rfl <| ok_iadd (v := (i + 1)) (pc' := 2490) i0_2489 rfl rfl <| ok_iaload (v := v1) (pc' := 2491) i0_2490 (ShScr_k0 hS1) (by decide) (ShScr_l0 hS1) (by omega) hv1 rfl <| ok_aloadn (pc' := 2492) i0_2491 rfl rfl <| ok_cc i0_2492 rfl (cl_s o0 m13_320 na315 rfl rfl (bt rfl) (bt rfl) rfl) ln315 (pd315 (aR 100) (aI v1) (aR 464)) <| ?_
    refine ok_aloadn (pc' := 1) i315_0 rfl rfl <| ok_iconst (pc' := 2) i315_1 rfl <| ok_aloadn (pc' := 3) i315_2 rfl rfl <| ok_iloadn (pc' := 4) i315_3 rfl rfl <| ok_cc i315_4 rfl (cl_v o315 m13_130 na141 rfl rfl (bt rfl) (bt rfl) rfl (by rw [ShYard_k0 hS100, o141])) ln141 (pd141 (aR 100) (aI v1)) <| ok_aloadn (pc' := 1) i141_0 rfl rfl <| ok_cc i141_1 rfl (cl_v o141 m0_132 na99 rfl rfl (bt rfl) (bt rfl) rfl (by rw [ShYard_k0 hS100, o99])) ln99 (pd99 (aR 100)) <| ok_aloadn (pc' := 1) i99_0 rfl rfl <| ?_
    refine ok_getfi (v := 1) (pc' := 4) i99_1 o99 gi0_268 (ShYard_k0 hS100) hl rfl <| ok_kz1 (pc1 := 18) (pc2 := 7) i99_4 (by decide) rfl rfl <| ok_vret i99_18 rt99 <| kt_0 (pc' := 4) rfl <| ok_aloadn (pc' := 5) i141_4 rfl rfl <| ok_iloadn (pc' := 6) i141_5 rfl rfl <| ok_cc i141_6 rfl (cl_v o141 m0_180 na106 rfl rfl (bt rfl) (bt rfl) rfl (by rw [ShYard_k0 hS100, o106])) ln106 (pd106 (aR 100) (aI v1)) <| ok_iloadn (pc' := 1) i106_0 rfl rfl <| ?_
    refine ok_zlt (pc1 := 15) (pc2 := 4) i106_1 (by omega) rfl rfl (fun h503 => ?_) (fun h9 => by exfalso; omega)
    refine ok_throw th106_15 (bt rfl) <| kt_x hh141 <| kt_h hn315 hf315_4_10 hr315_15 <| kt_v (pc' := 2495) rfl <| ?_
    refine ok_al hD (fun g hD => ?_)
    have hS448 := HD_o hD
    have hS1 := HD_s hD
    have hS464 := HD_u hD
    have hS465 := HD_ud hD
    refine ok_istore (pc' := 2497) (ls' := [aR 1, aR 100, aR 448, aR 464, aR 465, aI i, aI 2, w7, w8]) i0_2495 (bt rfl) rfl rfl <| ok_aloadn (pc' := 2498) i0_2497 rfl rfl <| ok_aloadn (pc' := 2499) i0_2498 rfl rfl <| ok_iload (pc' := 2501) i0_2499 rfl rfl <| ok_iconst (pc' := 2502) i0_2501 rfl <| ok_iadd (v := (i + 1)) (pc' := 2503) i0_2502 rfl rfl <| ok_iaload (v := v1) (pc' := 2504) i0_2503 (ShScr_k0 hS1) (by decide) (ShScr_l0 hS1) (by omega) hv1 rfl <| ok_cc i0_2504 rfl (cl_v o0 m13_322 na264 rfl rfl (bt rfl) (bt rfl) rfl (by rw [ShModel_k0 hS448, o264])) ln264 (pd264 (aR 448) (aI v1)) <| ?_
    refine ok_aloadn (pc' := 1) i264_0 rfl rfl <| ok_iloadn (pc' := 2) i264_1 rfl rfl <| ok_cc i264_2 rfl (cl_v o264 m9_244 na199 rfl rfl (bt rfl) (bt rfl) rfl (by rw [ShModel_k0 hS448, o199])) ln199 (pd199 (aR 448) (aI v1)) <| ok_aloadn (pc' := 1) i199_0 rfl rfl <| ok_cc i199_1 rfl (cl_v o199 m9_216 na188 rfl rfl (bt rfl) (bt rfl) rfl (by rw [ShModel_k0 hS448, o188])) ln188 (pd188 (aR 448)) <| ok_aloadn (pc' := 1) i188_0 rfl rfl <| ok_iconst (pc' := 2) i188_1 rfl <| ok_putfj (kk := 0) (pc' := 5) i188_2 o188 pi188_63 (ShModel_k0 hS448) rfl rfl <| ?_
    refine ok_aloadn (pc' := 6) i188_5 rfl rfl <| ok_aloadn (pc' := 7) i188_6 rfl rfl <| ok_getfi (v := 1) (pc' := 10) i188_7 o188 gi9_66 (ShModel_k0 hS448) (rd_ni (by decide) (hld.trans hl)) rfl <| ok_kz1 (pc1 := 17) (pc2 := 13) i188_10 (by decide) rfl rfl <| ok_iconst (pc' := 18) i188_17 rfl <| ok_iconst (pc' := 19) i188_18 rfl <| ok_cc i188_19 rfl (cl_v o188 m9_70 na165 rfl rfl (bt rfl) (bt rfl) rfl (by rw [ShModel_k0 hS448, o165])) ln165 (pd165 (aR 448) (aI 0) (aI 1)) <| ok_aloadn (pc' := 1) i165_0 rfl rfl <| ?_
    refine ok_getfi (v := 0) (pc' := 4) i165_1 o165 gi9_63 (ShModel_k0 hS448) rd_eq rfl <| ok_kz0 (pc1 := 16) (pc2 := 7) i165_4 (by decide) rfl rfl <| ok_iloadn (pc' := 8) i165_7 rfl rfl <| ok_kz1 (pc1 := 16) (pc2 := 11) i165_8 (by decide) rfl rfl <| ok_aloadn (pc' := 17) i165_16 rfl rfl <| ok_getfi (v := 0) (pc' := 20) i165_17 o165 gi9_63 (ShModel_k0 hS448) rd_eq rfl <| ok_kz1 (pc1 := 27) (pc2 := 23) i165_20 (by decide) rfl rfl <| ok_iconst (pc' := 28) i165_27 rfl <| ?_
    refine ok_iretz i165_28 rt165 (by decide) <| kt_v (pc' := 22) rfl <| ok_iretz i188_22 rt188 (by decide) <| kt_v (pc' := 4) rfl <| ok_kz0 (pc1 := 36) (pc2 := 7) i199_4 (by decide) rfl rfl <| ok_aloadn (pc' := 8) i199_7 rfl rfl <| ok_iloadn (pc' := 9) i199_8 rfl rfl <| ok_iconst (pc' := 10) i199_9 rfl <| ?_
    refine ok_aloadn (pc' := 11) i199_10 rfl rfl <| ok_getfr (r := (448 + 5)) (pc' := 14) i199_11 o199 gr9_22 (ShModel_k0 hS448) (ShModel_r8 hS448) rfl <| ok_iconst (pc' := 15) i199_14 rfl <| ok_iaload (v := (s 4)) (pc' := 16) i199_15 (ShModel_k5 hS448) (by decide) (ShModel_l5 hS448) (by decide) (rd_na (by omega) (RepO_s hO)) rfl <| ok_iconst (pc' := 17) i199_16 rfl <| ok_isub (v := ((s 4) - 1)) (pc' := 18) i199_17 rfl rfl <| ok_cc i199_18 rfl (cl_s o199 m9_140 na164 rfl rfl (bt rfl) (bt rfl) rfl) ln164 (pd164 (aI v1) (aI 0) (aI ((s 4) - 1))) <| ok_iloadn (pc' := 1) i164_0 rfl rfl <| ?_
    refine ok_iloadn (pc' := 2) i164_1 rfl rfl <| ?_
    refine ok_clt (pc1 := 14) (pc2 := 5) i164_2 (by omega) rfl rfl (fun h506 => ?_) (fun h9 => by exfalso; omega)
    refine ok_iconst (pc' := 15) i164_14 rfl <| ok_iretz i164_15 rt164 (by decide) <| kt_v (pc' := 21) rfl <| ok_kz0 (pc1 := 28) (pc2 := 24) i199_21 (by decide) rfl rfl <| ok_iconst (pc' := 25) i199_24 rfl <| ok_goto (pc' := 29) i199_25 rfl <| ok_iconst (pc' := 30) i199_29 rfl <| ok_cc i199_30 rfl (cl_v o199 m9_70 na165 rfl rfl (bt rfl) (bt rfl) rfl (by rw [ShModel_k0 hS448, o165])) ln165 (pd165 (aR 448) (aI 1) (aI 2)) <| ?_
    refine ok_aloadn (pc' := 1) i165_0 rfl rfl <| ok_getfi (v := 0) (pc' := 4) i165_1 o165 gi9_63 (ShModel_k0 hS448) rd_eq rfl <| ok_kz0 (pc1 := 16) (pc2 := 7) i165_4 (by decide) rfl rfl <| ok_iloadn (pc' := 8) i165_7 rfl rfl <| ok_kz0 (pc1 := 16) (pc2 := 11) i165_8 (by decide) rfl rfl <| ok_aloadn (pc' := 12) i165_11 rfl rfl <| ok_iloadn (pc' := 13) i165_12 rfl rfl <| ok_putfj (kk := 0) (pc' := 16) i165_13 o165 pi165_63 (ShModel_k0 hS448) rfl rfl <| ?_
    refine ok_aloadn (pc' := 17) i165_16 rfl rfl <| ok_getfi (v := 2) (pc' := 20) i165_17 o165 gi9_63 (ShModel_k0 hS448) rd_eq rfl <| ok_kz0 (pc1 := 27) (pc2 := 23) i165_20 (by decide) rfl rfl <| ok_iconst (pc' := 24) i165_23 rfl <| ok_goto (pc' := 28) i165_24 rfl <| ok_iretz i165_28 rt165 (by decide) <| kt_v (pc' := 33) rfl <| ok_kz0 (pc1 := 40) (pc2 := 36) i199_33 (by decide) rfl rfl <| ?_
    refine ok_iconst (pc' := 37) i199_36 rfl <| ok_goto (pc' := 41) i199_37 rfl <| ok_iretz i199_41 rt199 (by decide) <| kt_v (pc' := 5) rfl <| ok_kz0 (pc1 := 10) (pc2 := 8) i264_5 (by decide) rfl rfl <| ok_iconst (pc' := 9) i264_8 rfl <| ok_ireti i264_9 rt264 <| kt_v (pc' := 2507) rfl <| ?_
    refine ok_istore (pc' := 2509) (ls' := [aR 1, aR 100, aR 448, aR 464, aR 465, aI i, aI 2, aI 0, w8]) i0_2507 (bt rfl) rfl rfl <| ok_aloadn (pc' := 2510) i0_2509 rfl rfl <| ok_cc i0_2510 rfl (cl_v o0 m13_188 na157 rfl rfl (bt rfl) (bt rfl) rfl (by rw [ShModel_k0 hS448, o157])) ln157 (pd157 (aR 448)) <| ok_aloadn (pc' := 1) i157_0 rfl rfl <| ok_getfi (v := 2) (pc' := 4) i157_1 o157 gi9_63 (ShModel_k0 hS448) rd_eq rfl <| ok_ireti i157_4 rt157 <| kt_v (pc' := 2513) rfl <| ok_iload (pc' := 2515) i0_2513 rfl rfl <| ?_
    refine ok_kc1 (pc1 := 2520) (pc2 := 2518) i0_2515 (by decide) rfl rfl <| ok_iload (pc' := 2522) i0_2520 rfl rfl <| ok_kz1 (pc1 := 2537) (pc2 := 2525) i0_2522 (by decide) rfl rfl <| ok_goto (pc' := 3329) i0_2537 rfl <| ?_
    exact K _ _ _ _ _ _ hD (by omega) (Inv_mono (Inv_same hI (Same.thr (Same.thr Same.rfl))) (by omega))
  · refine ok_aloadn (pc' := 2485) i0_2484 rfl rfl <| ok_aloadn (pc' := 2486) i0_2485 rfl rfl <| ok_iload (pc' := 2488) i0_2486 rfl rfl <| ok_iconst (pc' := 2489) i0_2488 rfl <| ok_iadd (v := (i + 1)) (pc' := 2490) i0_2489 rfl rfl <| ok_iaload (v := v1) (pc' := 2491) i0_2490 (ShScr_k0 hS1) (by decide) (ShScr_l0 hS1) (by omega) hv1 rfl <| ok_aloadn (pc' := 2492) i0_2491 rfl rfl <| ok_cc i0_2492 rfl (cl_s o0 m13_320 na315 rfl rfl (bt rfl) (bt rfl) rfl) ln315 (pd315 (aR 100) (aI v1) (aR 464)) <| ?_
    refine ok_aloadn (pc' := 1) i315_0 rfl rfl <| ok_iconst (pc' := 2) i315_1 rfl <| ok_aloadn (pc' := 3) i315_2 rfl rfl <| ok_iloadn (pc' := 4) i315_3 rfl rfl <| ok_cc i315_4 rfl (cl_v o315 m13_130 na141 rfl rfl (bt rfl) (bt rfl) rfl (by rw [ShYard_k0 hS100, o141])) ln141 (pd141 (aR 100) (aI v1)) <| ok_aloadn (pc' := 1) i141_0 rfl rfl <| ok_cc i141_1 rfl (cl_v o141 m0_132 na99 rfl rfl (bt rfl) (bt rfl) rfl (by rw [ShYard_k0 hS100, o99])) ln99 (pd99 (aR 100)) <| ok_aloadn (pc' := 1) i99_0 rfl rfl <| ?_
    refine ok_getfi (v := 1) (pc' := 4) i99_1 o99 gi0_268 (ShYard_k0 hS100) hl rfl <| ok_kz1 (pc1 := 18) (pc2 := 7) i99_4 (by decide) rfl rfl <| ok_vret i99_18 rt99 <| kt_0 (pc' := 4) rfl <| ok_aloadn (pc' := 5) i141_4 rfl rfl <| ok_iloadn (pc' := 6) i141_5 rfl rfl <| ok_cc i141_6 rfl (cl_v o141 m0_180 na106 rfl rfl (bt rfl) (bt rfl) rfl (by rw [ShYard_k0 hS100, o106])) ln106 (pd106 (aR 100) (aI v1)) <| ok_iloadn (pc' := 1) i106_0 rfl rfl <| ?_
    refine ok_zlt (pc1 := 15) (pc2 := 4) i106_1 (by omega) rfl rfl (fun h9 => by exfalso; omega) (fun h503 => ?_)
    refine ok_iloadn (pc' := 5) i106_4 rfl rfl <| ok_aloadn (pc' := 6) i106_5 rfl rfl <| ok_getfr (r := 149) (pc' := 9) i106_6 o106 gr0_39 (ShYard_k0 hS100) (ShYard_r8 hS100) rfl <| ok_getfi (v := (s 4)) (pc' := 12) i106_9 o106 gi0_138 (ShState_k0 hS149) (RepS_f4 hRB) rfl <| ?_
    refine ok_clt (pc1 := 26) (pc2 := 15) i106_12 (by omega) rfl rfl (fun h9 => by exfalso; omega) (fun h504 => ?_)
    refine ok_throw th106_15 (bt rfl) <| kt_x hh141 <| kt_h hn315 hf315_4_10 hr315_15 <| kt_v (pc' := 2495) rfl <| ?_
    refine ok_al hD (fun g hD => ?_)
    have hS448 := HD_o hD
    have hS1 := HD_s hD
    have hS464 := HD_u hD
    have hS465 := HD_ud hD
    refine ok_istore (pc' := 2497) (ls' := [aR 1, aR 100, aR 448, aR 464, aR 465, aI i, aI 2, w7, w8]) i0_2495 (bt rfl) rfl rfl <| ok_aloadn (pc' := 2498) i0_2497 rfl rfl <| ok_aloadn (pc' := 2499) i0_2498 rfl rfl <| ok_iload (pc' := 2501) i0_2499 rfl rfl <| ok_iconst (pc' := 2502) i0_2501 rfl <| ok_iadd (v := (i + 1)) (pc' := 2503) i0_2502 rfl rfl <| ok_iaload (v := v1) (pc' := 2504) i0_2503 (ShScr_k0 hS1) (by decide) (ShScr_l0 hS1) (by omega) hv1 rfl <| ok_cc i0_2504 rfl (cl_v o0 m13_322 na264 rfl rfl (bt rfl) (bt rfl) rfl (by rw [ShModel_k0 hS448, o264])) ln264 (pd264 (aR 448) (aI v1)) <| ?_
    refine ok_aloadn (pc' := 1) i264_0 rfl rfl <| ok_iloadn (pc' := 2) i264_1 rfl rfl <| ok_cc i264_2 rfl (cl_v o264 m9_244 na199 rfl rfl (bt rfl) (bt rfl) rfl (by rw [ShModel_k0 hS448, o199])) ln199 (pd199 (aR 448) (aI v1)) <| ok_aloadn (pc' := 1) i199_0 rfl rfl <| ok_cc i199_1 rfl (cl_v o199 m9_216 na188 rfl rfl (bt rfl) (bt rfl) rfl (by rw [ShModel_k0 hS448, o188])) ln188 (pd188 (aR 448)) <| ok_aloadn (pc' := 1) i188_0 rfl rfl <| ok_iconst (pc' := 2) i188_1 rfl <| ok_putfj (kk := 0) (pc' := 5) i188_2 o188 pi188_63 (ShModel_k0 hS448) rfl rfl <| ?_
    refine ok_aloadn (pc' := 6) i188_5 rfl rfl <| ok_aloadn (pc' := 7) i188_6 rfl rfl <| ok_getfi (v := 1) (pc' := 10) i188_7 o188 gi9_66 (ShModel_k0 hS448) (rd_ni (by decide) (hld.trans hl)) rfl <| ok_kz1 (pc1 := 17) (pc2 := 13) i188_10 (by decide) rfl rfl <| ok_iconst (pc' := 18) i188_17 rfl <| ok_iconst (pc' := 19) i188_18 rfl <| ok_cc i188_19 rfl (cl_v o188 m9_70 na165 rfl rfl (bt rfl) (bt rfl) rfl (by rw [ShModel_k0 hS448, o165])) ln165 (pd165 (aR 448) (aI 0) (aI 1)) <| ok_aloadn (pc' := 1) i165_0 rfl rfl <| ?_
    refine ok_getfi (v := 0) (pc' := 4) i165_1 o165 gi9_63 (ShModel_k0 hS448) rd_eq rfl <| ok_kz0 (pc1 := 16) (pc2 := 7) i165_4 (by decide) rfl rfl <| ok_iloadn (pc' := 8) i165_7 rfl rfl <| ok_kz1 (pc1 := 16) (pc2 := 11) i165_8 (by decide) rfl rfl <| ok_aloadn (pc' := 17) i165_16 rfl rfl <| ok_getfi (v := 0) (pc' := 20) i165_17 o165 gi9_63 (ShModel_k0 hS448) rd_eq rfl <| ok_kz1 (pc1 := 27) (pc2 := 23) i165_20 (by decide) rfl rfl <| ok_iconst (pc' := 28) i165_27 rfl <| ?_
    refine ok_iretz i165_28 rt165 (by decide) <| kt_v (pc' := 22) rfl <| ok_iretz i188_22 rt188 (by decide) <| kt_v (pc' := 4) rfl <| ok_kz0 (pc1 := 36) (pc2 := 7) i199_4 (by decide) rfl rfl <| ok_aloadn (pc' := 8) i199_7 rfl rfl <| ok_iloadn (pc' := 9) i199_8 rfl rfl <| ok_iconst (pc' := 10) i199_9 rfl <| ?_
    refine ok_aloadn (pc' := 11) i199_10 rfl rfl <| ok_getfr (r := (448 + 5)) (pc' := 14) i199_11 o199 gr9_22 (ShModel_k0 hS448) (ShModel_r8 hS448) rfl <| ok_iconst (pc' := 15) i199_14 rfl <| ok_iaload (v := (s 4)) (pc' := 16) i199_15 (ShModel_k5 hS448) (by decide) (ShModel_l5 hS448) (by decide) (rd_na (by omega) (RepO_s hO)) rfl <| ok_iconst (pc' := 17) i199_16 rfl <| ok_isub (v := ((s 4) - 1)) (pc' := 18) i199_17 rfl rfl <| ok_cc i199_18 rfl (cl_s o199 m9_140 na164 rfl rfl (bt rfl) (bt rfl) rfl) ln164 (pd164 (aI v1) (aI 0) (aI ((s 4) - 1))) <| ok_iloadn (pc' := 1) i164_0 rfl rfl <| ?_
    refine ok_iloadn (pc' := 2) i164_1 rfl rfl <| ?_
    refine ok_clt (pc1 := 14) (pc2 := 5) i164_2 (by omega) rfl rfl (fun h9 => by exfalso; omega) (fun h507 => ?_)
    refine ok_iloadn (pc' := 6) i164_5 rfl rfl <| ok_iloadn (pc' := 7) i164_6 rfl rfl <| ?_
    refine ok_cgt (pc1 := 14) (pc2 := 10) i164_7 (by omega) rfl rfl (fun h508 => ?_) (fun h9 => by exfalso; omega)
    refine ok_iconst (pc' := 15) i164_14 rfl <| ok_iretz i164_15 rt164 (by decide) <| kt_v (pc' := 21) rfl <| ok_kz0 (pc1 := 28) (pc2 := 24) i199_21 (by decide) rfl rfl <| ok_iconst (pc' := 25) i199_24 rfl <| ok_goto (pc' := 29) i199_25 rfl <| ok_iconst (pc' := 30) i199_29 rfl <| ok_cc i199_30 rfl (cl_v o199 m9_70 na165 rfl rfl (bt rfl) (bt rfl) rfl (by rw [ShModel_k0 hS448, o165])) ln165 (pd165 (aR 448) (aI 1) (aI 2)) <| ?_
    refine ok_aloadn (pc' := 1) i165_0 rfl rfl <| ok_getfi (v := 0) (pc' := 4) i165_1 o165 gi9_63 (ShModel_k0 hS448) rd_eq rfl <| ok_kz0 (pc1 := 16) (pc2 := 7) i165_4 (by decide) rfl rfl <| ok_iloadn (pc' := 8) i165_7 rfl rfl <| ok_kz0 (pc1 := 16) (pc2 := 11) i165_8 (by decide) rfl rfl <| ok_aloadn (pc' := 12) i165_11 rfl rfl <| ok_iloadn (pc' := 13) i165_12 rfl rfl <| ok_putfj (kk := 0) (pc' := 16) i165_13 o165 pi165_63 (ShModel_k0 hS448) rfl rfl <| ?_
    refine ok_aloadn (pc' := 17) i165_16 rfl rfl <| ok_getfi (v := 2) (pc' := 20) i165_17 o165 gi9_63 (ShModel_k0 hS448) rd_eq rfl <| ok_kz0 (pc1 := 27) (pc2 := 23) i165_20 (by decide) rfl rfl <| ok_iconst (pc' := 24) i165_23 rfl <| ok_goto (pc' := 28) i165_24 rfl <| ok_iretz i165_28 rt165 (by decide) <| kt_v (pc' := 33) rfl <| ok_kz0 (pc1 := 40) (pc2 := 36) i199_33 (by decide) rfl rfl <| ?_
    refine ok_iconst (pc' := 37) i199_36 rfl <| ok_goto (pc' := 41) i199_37 rfl <| ok_iretz i199_41 rt199 (by decide) <| kt_v (pc' := 5) rfl <| ok_kz0 (pc1 := 10) (pc2 := 8) i264_5 (by decide) rfl rfl <| ok_iconst (pc' := 9) i264_8 rfl <| ok_ireti i264_9 rt264 <| kt_v (pc' := 2507) rfl <| ?_
    refine ok_istore (pc' := 2509) (ls' := [aR 1, aR 100, aR 448, aR 464, aR 465, aI i, aI 2, aI 0, w8]) i0_2507 (bt rfl) rfl rfl <| ok_aloadn (pc' := 2510) i0_2509 rfl rfl <| ok_cc i0_2510 rfl (cl_v o0 m13_188 na157 rfl rfl (bt rfl) (bt rfl) rfl (by rw [ShModel_k0 hS448, o157])) ln157 (pd157 (aR 448)) <| ok_aloadn (pc' := 1) i157_0 rfl rfl <| ok_getfi (v := 2) (pc' := 4) i157_1 o157 gi9_63 (ShModel_k0 hS448) rd_eq rfl <| ok_ireti i157_4 rt157 <| kt_v (pc' := 2513) rfl <| ok_iload (pc' := 2515) i0_2513 rfl rfl <| ?_
    refine ok_kc1 (pc1 := 2520) (pc2 := 2518) i0_2515 (by decide) rfl rfl <| ok_iload (pc' := 2522) i0_2520 rfl rfl <| ok_kz1 (pc1 := 2537) (pc2 := 2525) i0_2522 (by decide) rfl rfl <| ok_goto (pc' := 3329) i0_2537 rfl <| ?_
    exact K _ _ _ _ _ _ hD (by omega) (Inv_mono (Inv_same hI (Same.thr (Same.thr Same.rfl))) (by omega))
  · refine ok_aloadn (pc' := 2485) i0_2484 rfl rfl <| ok_aloadn (pc' := 2486) i0_2485 rfl rfl <| ok_iload (pc' := 2488) i0_2486 rfl rfl <| ok_iconst (pc' := 2489) i0_2488 rfl <| ok_iadd (v := (i + 1)) (pc' := 2490) i0_2489 rfl rfl <| ok_iaload (v := v1) (pc' := 2491) i0_2490 (ShScr_k0 hS1) (by decide) (ShScr_l0 hS1) (by omega) hv1 rfl <| ok_aloadn (pc' := 2492) i0_2491 rfl rfl <| ok_cc i0_2492 rfl (cl_s o0 m13_320 na315 rfl rfl (bt rfl) (bt rfl) rfl) ln315 (pd315 (aR 100) (aI v1) (aR 464)) <| ?_
    refine ok_aloadn (pc' := 1) i315_0 rfl rfl <| ok_iconst (pc' := 2) i315_1 rfl <| ok_aloadn (pc' := 3) i315_2 rfl rfl <| ok_iloadn (pc' := 4) i315_3 rfl rfl <| ?_
    refine ok_cn (pc' := 7) (d0 := 5) i315_4 rfl (cl_v o315 m13_130 na141 rfl rfl (bt rfl) (bt rfl) rfl (by rw [ShYard_k0 hS100, o141])) ln141 (pd141 (aR 100) (aI v1)) (by omega) (t141 (x1 := v1) hS100 hS149 hS446 hS24 hRB hV hQ hG24 (by omega) (by omega) (by omega) hl) rfl (fun M501 p502 => ?_)
    refine ok_i2l (v := (wr ((textO s v1).1))) (pc' := 8) i315_7 rfl rfl <| ok_lastore (pc' := 9) i315_8 (ShOut_k0 hS464) (ShOut_l0 hS464) (by decide) rfl <| ok_goto (pc' := 18) i315_9 rfl <| ok_iconst (pc' := 19) i315_18 rfl <| ok_ireti i315_19 rt315 <| kt_v (pc' := 2495) rfl <| ok_istore (pc' := 2497) (ls' := [aR 1, aR 100, aR 448, aR 464, aR 465, aI i, aI 0, w7, w8]) i0_2495 (bt rfl) rfl rfl <| ok_aloadn (pc' := 2498) i0_2497 rfl rfl <| ?_
    refine ok_aloadn (pc' := 2499) i0_2498 rfl rfl <| ok_iload (pc' := 2501) i0_2499 rfl rfl <| ok_iconst (pc' := 2502) i0_2501 rfl <| ok_iadd (v := (i + 1)) (pc' := 2503) i0_2502 rfl rfl <| ok_iaload (v := v1) (pc' := 2504) i0_2503 (ShScr_k0 hS1) (by decide) (ShScr_l0 hS1) (by omega) (rd_na (by omega) (Eq.trans (congrFun (p502.2 1 (by omega)) (i + 1)) hv1)) rfl <| ?_
    have hCM501_448 : RepO M501 448 q s := RepO.fr hO ⟨((congrFun (p502.2 448 (by omega)) 2).trans (by rfl)), ((congrFun (p502.2 448 (by omega)) 3).trans (by rfl))⟩ (fun a h1 h2 => (p502.2 a (by omega)).trans rfl)
    refine ok_cn (pc' := 2507) (d0 := 5) i0_2504 rfl (cl_v o0 m13_322 na264 rfl rfl (bt rfl) (bt rfl) rfl (by rw [ShModel_k0 hS448, o264])) ln264 (pd264 (aR 448) (aI v1)) (by omega) (t264 (x1 := v1) hS448 (RepO.fr hCM501_448 ⟨(by rw [up2_na (by omega)]), (by rw [up2_na (by omega)])⟩ (fun a h1 h2 => (by rw [up2_na (by omega)]))) hV hQ (by omega) (rd_na (by omega) (Eq.trans (congrFun (p502.2 448 (by omega)) 1) (hld.trans hl)))) rfl (fun M503 p504 => ?_)
    refine ok_istore (pc' := 2509) (ls' := [aR 1, aR 100, aR 448, aR 464, aR 465, aI i, aI 0, aI (textO s v1).1, w8]) i0_2507 (bt rfl) rfl rfl <| ok_aloadn (pc' := 2510) i0_2509 rfl rfl <| ok_cc i0_2510 rfl (cl_v o0 m13_188 na157 rfl rfl (bt rfl) (bt rfl) rfl (by rw [ShModel_k0 hS448, o157])) ln157 (pd157 (aR 448)) <| ok_aloadn (pc' := 1) i157_0 rfl rfl <| ok_getfi (v := 0) (pc' := 4) i157_1 o157 gi9_63 (ShModel_k0 hS448) p504.2.2.2 rfl <| ok_ireti i157_4 rt157 <| kt_v (pc' := 2513) rfl <| ok_iload (pc' := 2515) i0_2513 rfl rfl <| ?_
    refine ok_kc1 (pc1 := 2520) (pc2 := 2518) i0_2515 (by decide) rfl rfl <| ok_iload (pc' := 2522) i0_2520 rfl rfl <| ok_kz0 (pc1 := 2537) (pc2 := 2525) i0_2522 (by decide) rfl rfl <| ok_aloadn (pc' := 2526) i0_2525 rfl rfl <| ok_iconst (pc' := 2527) i0_2526 rfl <| ok_laload (v := (wr ((textO s v1).1))) (pc' := 2528) i0_2527 (ShOut_k0 hS464) (ShOut_l0 hS464) (by decide) (Eq.trans (congrFun (p504.2.1 464 (by omega)) 0) rd_eq) rfl <| ok_iload (pc' := 2530) i0_2528 rfl rfl <| ok_i2l (v := (wr ((textO s v1).1))) (pc' := 2531) i0_2530 rfl rfl <| ?_
    refine ok_lcmp0 (pc' := 2532) i0_2531 rfl <| ok_kz1 (pc1 := 2537) (pc2 := 2535) i0_2532 (by decide) rfl rfl <| ok_goto (pc' := 3329) i0_2537 rfl <| ?_
    exact K _ _ _ _ _ _ hD (by omega) (Inv_mono (Inv_text hI (fun y a1 a2 => by rw [p504.2.2.1 y (by omega), up2_na (by omega), p502.2 448 (by omega)]) (fun c a1 a2 a3 a4 a5 => by rw [p504.2.1 c (by omega), up2_na a5, p502.2 c (by omega)]) (RepT_fr p502.1 (by rw [p504.2.1 446 (by omega), up2_na (by omega)]) (by rw [p504.2.1 (446 + 1) (by omega), up2_na (by omega)])) p504.1 (textO_ok hV (o := v1) (by omega)).1 (textO_ok hV (o := v1) (by omega)).2.2) (by omega))
theorem c31_1 {L n : Nat} {g : AG} {M : AM} {xs : Nat → Int32} {b i : Int} {w6 w7 w8 : AV} {Q : AO → AG → AM → Prop} (hD : HD L n g) (hI : Inv xs b M) (hi : 0 ≤ i ∧ i + 6 ≤ L) (hb : 0 ≤ b ∧ b ≤ 900000) (hl : M 100 6 = 1) (K : KK L n i b xs Q) :
    Ok 10 0 1904 [aR 1, aR 100, aR 448, aR 464, aR 465, aI i, w6, w7, w8] [] g M Q := by
  have hI0 := hI
  obtain ⟨hA, hld, hl01, q, hc, ⟨nx, sz, hH, hsz⟩, hS⟩ := hI0
  have hH0 := hH
  obtain ⟨⟨hn1, hn0⟩, ⟨hz2, hz0⟩, h10, hHj⟩ := hH0
  obtain ⟨hw0, ⟨bu, by_, hb1, hb13, hbu, hZ, hU⟩, he3, he4, he5, hId, tx, hT, hUt, htl, htr⟩ := hA
  have htz := hT.2.1
  obtain ⟨s, hP, hRB, hO, hV, hQ, h40⟩ := hc hl
  have ys3 := V_3 hV
  have ys4 := V_4 hV
  have yq0 := Q_0 hQ
  have yq1 := Q_1 hQ
  obtain ⟨v1, hv1⟩ : ∃ u9 : Int, M 1 (i + 1) = u9 := ⟨_, rfl⟩
  have hr1 : -2147483648 ≤ v1 ∧ v1 < 2147483648 := hv1 ▸ scr_rg hw0 (i + 1)
  obtain ⟨v2, hv2⟩ : ∃ u9 : Int, M 1 (i + 2) = u9 := ⟨_, rfl⟩
  have hr2 : -2147483648 ≤ v2 ∧ v2 < 2147483648 := hv2 ▸ scr_rg hw0 (i + 2)
  have hS1 := HD_s hD
  have hS100 := HD_y hD
  have hS138 := HD_p hD
  have hS149 := HD_b hD
  have hS174 := HD_t hD
  have hS175 := HD_tb hD
  have hS199 := HD_tw hD
  have hS448 := HD_o hD
  have hS464 := HD_u hD
  have hS465 := HD_ud hD
  refine ok_aloadn (pc' := 1905) i0_1904 rfl rfl <| ok_aloadn (pc' := 1906) i0_1905 rfl rfl <| ok_iload (pc' := 1908) i0_1906 rfl rfl <| ok_iconst (pc' := 1909) i0_1908 rfl <| ok_iadd (v := (i + 1)) (pc' := 1910) i0_1909 rfl rfl <| ok_iaload (v := v1) (pc' := 1911) i0_1910 (ShScr_k0 hS1) (by decide) (ShScr_l0 hS1) (by omega) hv1 rfl <| ok_aloadn (pc' := 1912) i0_1911 rfl rfl <| ok_iload (pc' := 1914) i0_1912 rfl rfl <| ?_
  refine ok_iconst (pc' := 1915) i0_1914 rfl <| ok_iadd (v := (i + 2)) (pc' := 1916) i0_1915 rfl rfl <| ok_iaload (v := v2) (pc' := 1917) i0_1916 (ShScr_k0 hS1) (by decide) (ShScr_l0 hS1) (by omega) hv2 rfl <| ok_aloadn (pc' := 1918) i0_1917 rfl rfl <| ok_cc i0_1918 rfl (cl_s o0 m13_285 na305 rfl rfl (bt rfl) (bt rfl) rfl) ln305 (pd305 (aR 100) (aI v1) (aI v2) (aR 464)) <| ok_aloadn (pc' := 1) i305_0 rfl rfl <| ok_iconst (pc' := 2) i305_1 rfl <| ok_aloadn (pc' := 3) i305_2 rfl rfl <| ?_
  refine ok_iloadn (pc' := 4) i305_3 rfl rfl <| ok_iloadn (pc' := 5) i305_4 rfl rfl <| ok_cc i305_5 rfl (cl_v o305 m13_98 na130 rfl rfl (bt rfl) (bt rfl) rfl (by rw [ShYard_k0 hS100, o130])) ln130 (pd130 (aR 100) (aI v1) (aI v2)) <| ok_aloadn (pc' := 1) i130_0 rfl rfl <| ok_cc i130_1 rfl (cl_v o130 m0_132 na99 rfl rfl (bt rfl) (bt rfl) rfl (by rw [ShYard_k0 hS100, o99])) ln99 (pd99 (aR 100)) <| ok_aloadn (pc' := 1) i99_0 rfl rfl <| ok_getfi (v := 1) (pc' := 4) i99_1 o99 gi0_268 (ShYard_k0 hS100) hl rfl <| ok_kz1 (pc1 := 18) (pc2 := 7) i99_4 (by decide) rfl rfl <| ?_
  refine ok_vret i99_18 rt99 <| kt_0 (pc' := 4) rfl <| ok_aloadn (pc' := 5) i130_4 rfl rfl <| ok_iloadn (pc' := 6) i130_5 rfl rfl <| ok_cc i130_6 rfl (cl_v o130 m0_180 na106 rfl rfl (bt rfl) (bt rfl) rfl (by rw [ShYard_k0 hS100, o106])) ln106 (pd106 (aR 100) (aI v2)) <| ok_iloadn (pc' := 1) i106_0 rfl rfl <| ?_
  refine ok_zlt (pc1 := 15) (pc2 := 4) i106_1 (by omega) rfl rfl (fun h501 => ?_) (fun h501 => ?_)
  · refine ok_throw th106_15 (bt rfl) <| kt_x hh130 <| kt_h hn305 hf305_5_10 hr305_17 <| kt_v (pc' := 1921) rfl <| ?_
    refine ok_al hD (fun g hD => ?_)
    have hS448 := HD_o hD
    have hS1 := HD_s hD
    have hS464 := HD_u hD
    have hS465 := HD_ud hD
    refine ok_istore (pc' := 1923) (ls' := [aR 1, aR 100, aR 448, aR 464, aR 465, aI i, aI 2, w7, w8]) i0_1921 (bt rfl) rfl rfl <| ok_aloadn (pc' := 1924) i0_1923 rfl rfl <| ok_aloadn (pc' := 1925) i0_1924 rfl rfl <| ok_iload (pc' := 1927) i0_1925 rfl rfl <| ok_iconst (pc' := 1928) i0_1927 rfl <| ok_iadd (v := (i + 1)) (pc' := 1929) i0_1928 rfl rfl <| ok_iaload (v := v1) (pc' := 1930) i0_1929 (ShScr_k0 hS1) (by decide) (ShScr_l0 hS1) (by omega) hv1 rfl <| ok_aloadn (pc' := 1931) i0_1930 rfl rfl <| ?_
    refine ok_iload (pc' := 1933) i0_1931 rfl rfl <| ok_iconst (pc' := 1934) i0_1933 rfl <| ok_iadd (v := (i + 2)) (pc' := 1935) i0_1934 rfl rfl <| ok_iaload (v := v2) (pc' := 1936) i0_1935 (ShScr_k0 hS1) (by decide) (ShScr_l0 hS1) (by omega) hv2 rfl <| ok_cc i0_1936 rfl (cl_v o0 m13_287 na247 rfl rfl (bt rfl) (bt rfl) rfl (by rw [ShModel_k0 hS448, o247])) ln247 (pd247 (aR 448) (aI v1) (aI v2)) <| ok_aloadn (pc' := 1) i247_0 rfl rfl <| ok_iloadn (pc' := 2) i247_1 rfl rfl <| ok_cc i247_2 rfl (cl_v o247 m9_244 na199 rfl rfl (bt rfl) (bt rfl) rfl (by rw [ShModel_k0 hS448, o199])) ln199 (pd199 (aR 448) (aI v2)) <| ?_
    refine ok_aloadn (pc' := 1) i199_0 rfl rfl <| ok_cc i199_1 rfl (cl_v o199 m9_216 na188 rfl rfl (bt rfl) (bt rfl) rfl (by rw [ShModel_k0 hS448, o188])) ln188 (pd188 (aR 448)) <| ok_aloadn (pc' := 1) i188_0 rfl rfl <| ok_iconst (pc' := 2) i188_1 rfl <| ok_putfj (kk := 0) (pc' := 5) i188_2 o188 pi188_63 (ShModel_k0 hS448) rfl rfl <| ok_aloadn (pc' := 6) i188_5 rfl rfl <| ok_aloadn (pc' := 7) i188_6 rfl rfl <| ok_getfi (v := 1) (pc' := 10) i188_7 o188 gi9_66 (ShModel_k0 hS448) (rd_ni (by decide) (hld.trans hl)) rfl <| ?_
    refine ok_kz1 (pc1 := 17) (pc2 := 13) i188_10 (by decide) rfl rfl <| ok_iconst (pc' := 18) i188_17 rfl <| ok_iconst (pc' := 19) i188_18 rfl <| ok_cc i188_19 rfl (cl_v o188 m9_70 na165 rfl rfl (bt rfl) (bt rfl) rfl (by rw [ShModel_k0 hS448, o165])) ln165 (pd165 (aR 448) (aI 0) (aI 1)) <| ok_aloadn (pc' := 1) i165_0 rfl rfl <| ok_getfi (v := 0) (pc' := 4) i165_1 o165 gi9_63 (ShModel_k0 hS448) rd_eq rfl <| ok_kz0 (pc1 := 16) (pc2 := 7) i165_4 (by decide) rfl rfl <| ok_iloadn (pc' := 8) i165_7 rfl rfl <| ?_
    refine ok_kz1 (pc1 := 16) (pc2 := 11) i165_8 (by decide) rfl rfl <| ok_aloadn (pc' := 17) i165_16 rfl rfl <| ok_getfi (v := 0) (pc' := 20) i165_17 o165 gi9_63 (ShModel_k0 hS448) rd_eq rfl <| ok_kz1 (pc1 := 27) (pc2 := 23) i165_20 (by decide) rfl rfl <| ok_iconst (pc' := 28) i165_27 rfl <| ok_iretz i165_28 rt165 (by decide) <| kt_v (pc' := 22) rfl <| ok_iretz i188_22 rt188 (by decide) <| ?_
    refine kt_v (pc' := 4) rfl <| ok_kz0 (pc1 := 36) (pc2 := 7) i199_4 (by decide) rfl rfl <| ok_aloadn (pc' := 8) i199_7 rfl rfl <| ok_iloadn (pc' := 9) i199_8 rfl rfl <| ok_iconst (pc' := 10) i199_9 rfl <| ok_aloadn (pc' := 11) i199_10 rfl rfl <| ok_getfr (r := (448 + 5)) (pc' := 14) i199_11 o199 gr9_22 (ShModel_k0 hS448) (ShModel_r8 hS448) rfl <| ok_iconst (pc' := 15) i199_14 rfl <| ?_
    refine ok_iaload (v := (s 4)) (pc' := 16) i199_15 (ShModel_k5 hS448) (by decide) (ShModel_l5 hS448) (by decide) (rd_na (by omega) (RepO_s hO)) rfl <| ok_iconst (pc' := 17) i199_16 rfl <| ok_isub (v := ((s 4) - 1)) (pc' := 18) i199_17 rfl rfl <| ok_cc i199_18 rfl (cl_s o199 m9_140 na164 rfl rfl (bt rfl) (bt rfl) rfl) ln164 (pd164 (aI v2) (aI 0) (aI ((s 4) - 1))) <| ok_iloadn (pc' := 1) i164_0 rfl rfl <| ok_iloadn (pc' := 2) i164_1 rfl rfl <| ?_
    refine ok_clt (pc1 := 14) (pc2 := 5) i164_2 (by omega) rfl rfl (fun h502 => ?_) (fun h9 => by exfalso; omega)
    refine ok_iconst (pc' := 15) i164_14 rfl <| ok_iretz i164_15 rt164 (by decide) <| kt_v (pc' := 21) rfl <| ok_kz0 (pc1 := 28) (pc2 := 24) i199_21 (by decide) rfl rfl <| ok_iconst (pc' := 25) i199_24 rfl <| ok_goto (pc' := 29) i199_25 rfl <| ok_iconst (pc' := 30) i199_29 rfl <| ok_cc i199_30 rfl (cl_v o199 m9_70 na165 rfl rfl (bt rfl) (bt rfl) rfl (by rw [ShModel_k0 hS448, o165])) ln165 (pd165 (aR 448) (aI 1) (aI 2)) <| ?_
    refine ok_aloadn (pc' := 1) i165_0 rfl rfl <| ok_getfi (v := 0) (pc' := 4) i165_1 o165 gi9_63 (ShModel_k0 hS448) rd_eq rfl <| ok_kz0 (pc1 := 16) (pc2 := 7) i165_4 (by decide) rfl rfl <| ok_iloadn (pc' := 8) i165_7 rfl rfl <| ok_kz0 (pc1 := 16) (pc2 := 11) i165_8 (by decide) rfl rfl <| ok_aloadn (pc' := 12) i165_11 rfl rfl <| ok_iloadn (pc' := 13) i165_12 rfl rfl <| ok_putfj (kk := 0) (pc' := 16) i165_13 o165 pi165_63 (ShModel_k0 hS448) rfl rfl <| ?_
    refine ok_aloadn (pc' := 17) i165_16 rfl rfl <| ok_getfi (v := 2) (pc' := 20) i165_17 o165 gi9_63 (ShModel_k0 hS448) rd_eq rfl <| ok_kz0 (pc1 := 27) (pc2 := 23) i165_20 (by decide) rfl rfl <| ok_iconst (pc' := 24) i165_23 rfl <| ok_goto (pc' := 28) i165_24 rfl <| ok_iretz i165_28 rt165 (by decide) <| kt_v (pc' := 33) rfl <| ok_kz0 (pc1 := 40) (pc2 := 36) i199_33 (by decide) rfl rfl <| ?_
    refine ok_iconst (pc' := 37) i199_36 rfl <| ok_goto (pc' := 41) i199_37 rfl <| ok_iretz i199_41 rt199 (by decide) <| kt_v (pc' := 5) rfl <| ok_kz1 (pc1 := 30) (pc2 := 8) i247_5 (by decide) rfl rfl <| ok_iconst (pc' := 31) i247_30 rfl <| ok_ireti i247_31 rt247 <| kt_v (pc' := 1939) rfl <| ?_
    refine ok_istore (pc' := 1941) (ls' := [aR 1, aR 100, aR 448, aR 464, aR 465, aI i, aI 2, aI 0, w8]) i0_1939 (bt rfl) rfl rfl <| ok_aloadn (pc' := 1942) i0_1941 rfl rfl <| ok_cc i0_1942 rfl (cl_v o0 m13_188 na157 rfl rfl (bt rfl) (bt rfl) rfl (by rw [ShModel_k0 hS448, o157])) ln157 (pd157 (aR 448)) <| ok_aloadn (pc' := 1) i157_0 rfl rfl <| ok_getfi (v := 2) (pc' := 4) i157_1 o157 gi9_63 (ShModel_k0 hS448) rd_eq rfl <| ok_ireti i157_4 rt157 <| kt_v (pc' := 1945) rfl <| ok_iload (pc' := 1947) i0_1945 rfl rfl <| ?_
    refine ok_kc1 (pc1 := 1952) (pc2 := 1950) i0_1947 (by decide) rfl rfl <| ok_iload (pc' := 1954) i0_1952 rfl rfl <| ok_kz1 (pc1 := 1969) (pc2 := 1957) i0_1954 (by decide) rfl rfl <| ok_goto (pc' := 3329) i0_1969 rfl <| ?_
    exact K _ _ _ _ _ _ hD (by omega) (Inv_mono (Inv_same hI (Same.thr (Same.thr Same.rfl))) (by omega))
  · refine ok_iloadn (pc' := 5) i106_4 rfl rfl <| ok_aloadn (pc' := 6) i106_5 rfl rfl <| ok_getfr (r := 149) (pc' := 9) i106_6 o106 gr0_39 (ShYard_k0 hS100) (ShYard_r8 hS100) rfl <| ok_getfi (v := (s 4)) (pc' := 12) i106_9 o106 gi0_138 (ShState_k0 hS149) (RepS_f4 hRB) rfl <| ?_
    refine ok_clt (pc1 := 26) (pc2 := 15) i106_12 (by omega) rfl rfl (fun h503 => ?_) (fun h503 => ?_)
    · refine ok_vret i106_26 rt106 <| kt_0 (pc' := 9) rfl <| ok_iloadn (pc' := 10) i130_9 rfl rfl <| ok_iconst (pc' := 11) i130_10 rfl <| ok_iconst (pc' := 12) i130_11 rfl <| ok_cc i130_12 rfl (cl_s o130 m0_172 na104 rfl rfl (bt rfl) (bt rfl) rfl) ln104 (pd104 (aI v1) (aI 0) (aI 3)) <| ok_iloadn (pc' := 1) i104_0 rfl rfl <| ok_iloadn (pc' := 2) i104_1 rfl rfl <| ?_
      refine ok_clt (pc1 := 10) (pc2 := 5) i104_2 (by omega) rfl rfl (fun h504 => ?_) (fun h504 => ?_)
      · refine ok_throw th104_10 (bt rfl) <| kt_x hh130 <| kt_h hn305 hf305_5_11 hr305_21 <| kt_v (pc' := 1921) rfl <| ?_
        refine ok_al hD (fun g hD => ?_)
        have hS448 := HD_o hD
        have hS1 := HD_s hD
        have hS464 := HD_u hD
        have hS465 := HD_ud hD
        refine ok_istore (pc' := 1923) (ls' := [aR 1, aR 100, aR 448, aR 464, aR 465, aI i, aI 3, w7, w8]) i0_1921 (bt rfl) rfl rfl <| ok_aloadn (pc' := 1924) i0_1923 rfl rfl <| ok_aloadn (pc' := 1925) i0_1924 rfl rfl <| ok_iload (pc' := 1927) i0_1925 rfl rfl <| ok_iconst (pc' := 1928) i0_1927 rfl <| ok_iadd (v := (i + 1)) (pc' := 1929) i0_1928 rfl rfl <| ok_iaload (v := v1) (pc' := 1930) i0_1929 (ShScr_k0 hS1) (by decide) (ShScr_l0 hS1) (by omega) hv1 rfl <| ok_aloadn (pc' := 1931) i0_1930 rfl rfl <| ?_
        refine ok_iload (pc' := 1933) i0_1931 rfl rfl <| ok_iconst (pc' := 1934) i0_1933 rfl <| ok_iadd (v := (i + 2)) (pc' := 1935) i0_1934 rfl rfl <| ok_iaload (v := v2) (pc' := 1936) i0_1935 (ShScr_k0 hS1) (by decide) (ShScr_l0 hS1) (by omega) hv2 rfl <| ok_cc i0_1936 rfl (cl_v o0 m13_287 na247 rfl rfl (bt rfl) (bt rfl) rfl (by rw [ShModel_k0 hS448, o247])) ln247 (pd247 (aR 448) (aI v1) (aI v2)) <| ok_aloadn (pc' := 1) i247_0 rfl rfl <| ok_iloadn (pc' := 2) i247_1 rfl rfl <| ok_cc i247_2 rfl (cl_v o247 m9_244 na199 rfl rfl (bt rfl) (bt rfl) rfl (by rw [ShModel_k0 hS448, o199])) ln199 (pd199 (aR 448) (aI v2)) <| ?_
        refine ok_aloadn (pc' := 1) i199_0 rfl rfl <| ok_cc i199_1 rfl (cl_v o199 m9_216 na188 rfl rfl (bt rfl) (bt rfl) rfl (by rw [ShModel_k0 hS448, o188])) ln188 (pd188 (aR 448)) <| ok_aloadn (pc' := 1) i188_0 rfl rfl <| ok_iconst (pc' := 2) i188_1 rfl <| ok_putfj (kk := 0) (pc' := 5) i188_2 o188 pi188_63 (ShModel_k0 hS448) rfl rfl <| ok_aloadn (pc' := 6) i188_5 rfl rfl <| ok_aloadn (pc' := 7) i188_6 rfl rfl <| ok_getfi (v := 1) (pc' := 10) i188_7 o188 gi9_66 (ShModel_k0 hS448) (rd_ni (by decide) (hld.trans hl)) rfl <| ?_
        refine ok_kz1 (pc1 := 17) (pc2 := 13) i188_10 (by decide) rfl rfl <| ok_iconst (pc' := 18) i188_17 rfl <| ok_iconst (pc' := 19) i188_18 rfl <| ok_cc i188_19 rfl (cl_v o188 m9_70 na165 rfl rfl (bt rfl) (bt rfl) rfl (by rw [ShModel_k0 hS448, o165])) ln165 (pd165 (aR 448) (aI 0) (aI 1)) <| ok_aloadn (pc' := 1) i165_0 rfl rfl <| ok_getfi (v := 0) (pc' := 4) i165_1 o165 gi9_63 (ShModel_k0 hS448) rd_eq rfl <| ok_kz0 (pc1 := 16) (pc2 := 7) i165_4 (by decide) rfl rfl <| ok_iloadn (pc' := 8) i165_7 rfl rfl <| ?_
        refine ok_kz1 (pc1 := 16) (pc2 := 11) i165_8 (by decide) rfl rfl <| ok_aloadn (pc' := 17) i165_16 rfl rfl <| ok_getfi (v := 0) (pc' := 20) i165_17 o165 gi9_63 (ShModel_k0 hS448) rd_eq rfl <| ok_kz1 (pc1 := 27) (pc2 := 23) i165_20 (by decide) rfl rfl <| ok_iconst (pc' := 28) i165_27 rfl <| ok_iretz i165_28 rt165 (by decide) <| kt_v (pc' := 22) rfl <| ok_iretz i188_22 rt188 (by decide) <| ?_
        refine kt_v (pc' := 4) rfl <| ok_kz0 (pc1 := 36) (pc2 := 7) i199_4 (by decide) rfl rfl <| ok_aloadn (pc' := 8) i199_7 rfl rfl <| ok_iloadn (pc' := 9) i199_8 rfl rfl <| ok_iconst (pc' := 10) i199_9 rfl <| ok_aloadn (pc' := 11) i199_10 rfl rfl <| ok_getfr (r := (448 + 5)) (pc' := 14) i199_11 o199 gr9_22 (ShModel_k0 hS448) (ShModel_r8 hS448) rfl <| ok_iconst (pc' := 15) i199_14 rfl <| ?_
        refine ok_iaload (v := (s 4)) (pc' := 16) i199_15 (ShModel_k5 hS448) (by decide) (ShModel_l5 hS448) (by decide) (rd_na (by omega) (RepO_s hO)) rfl <| ok_iconst (pc' := 17) i199_16 rfl <| ok_isub (v := ((s 4) - 1)) (pc' := 18) i199_17 rfl rfl <| ok_cc i199_18 rfl (cl_s o199 m9_140 na164 rfl rfl (bt rfl) (bt rfl) rfl) ln164 (pd164 (aI v2) (aI 0) (aI ((s 4) - 1))) <| ok_iloadn (pc' := 1) i164_0 rfl rfl <| ok_iloadn (pc' := 2) i164_1 rfl rfl <| ?_
        refine ok_clt (pc1 := 14) (pc2 := 5) i164_2 (by omega) rfl rfl (fun h9 => by exfalso; omega) (fun h505 => ?_)
        refine ok_iloadn (pc' := 6) i164_5 rfl rfl <| ok_iloadn (pc' := 7) i164_6 rfl rfl <| ?_
        refine ok_cgt (pc1 := 14) (pc2 := 10) i164_7 (by omega) rfl rfl (fun h9 => by exfalso; omega) (fun h506 => ?_)
        refine ok_iconst (pc' := 11) i164_10 rfl <| ok_goto (pc' := 15) i164_11 rfl <| ok_iretz i164_15 rt164 (by decide) <| kt_v (pc' := 21) rfl <| ok_kz1 (pc1 := 28) (pc2 := 24) i199_21 (by decide) rfl rfl <| ok_iconst (pc' := 29) i199_28 rfl <| ok_iconst (pc' := 30) i199_29 rfl <| ok_cc i199_30 rfl (cl_v o199 m9_70 na165 rfl rfl (bt rfl) (bt rfl) rfl (by rw [ShModel_k0 hS448, o165])) ln165 (pd165 (aR 448) (aI 0) (aI 2)) <| ?_
        refine ok_aloadn (pc' := 1) i165_0 rfl rfl <| ok_getfi (v := 0) (pc' := 4) i165_1 o165 gi9_63 (ShModel_k0 hS448) rd_eq rfl <| ok_kz0 (pc1 := 16) (pc2 := 7) i165_4 (by decide) rfl rfl <| ok_iloadn (pc' := 8) i165_7 rfl rfl <| ok_kz1 (pc1 := 16) (pc2 := 11) i165_8 (by decide) rfl rfl <| ok_aloadn (pc' := 17) i165_16 rfl rfl <| ok_getfi (v := 0) (pc' := 20) i165_17 o165 gi9_63 (ShModel_k0 hS448) rd_eq rfl <| ok_kz1 (pc1 := 27) (pc2 := 23) i165_20 (by decide) rfl rfl <| ?_
        refine ok_iconst (pc' := 28) i165_27 rfl <| ok_iretz i165_28 rt165 (by decide) <| kt_v (pc' := 33) rfl <| ok_kz1 (pc1 := 40) (pc2 := 36) i199_33 (by decide) rfl rfl <| ok_iconst (pc' := 41) i199_40 rfl <| ok_iretz i199_41 rt199 (by decide) <| kt_v (pc' := 5) rfl <| ok_kz0 (pc1 := 30) (pc2 := 8) i247_5 (by decide) rfl rfl <| ?_
        refine ok_aloadn (pc' := 9) i247_8 rfl rfl <| ok_iloadn (pc' := 10) i247_9 rfl rfl <| ok_iconst (pc' := 11) i247_10 rfl <| ok_iconst (pc' := 12) i247_11 rfl <| ok_cc i247_12 rfl (cl_s o247 m9_140 na164 rfl rfl (bt rfl) (bt rfl) rfl) ln164 (pd164 (aI v1) (aI 0) (aI 3)) <| ok_iloadn (pc' := 1) i164_0 rfl rfl <| ok_iloadn (pc' := 2) i164_1 rfl rfl <| ?_
        refine ok_clt (pc1 := 14) (pc2 := 5) i164_2 (by omega) rfl rfl (fun h507 => ?_) (fun h9 => by exfalso; omega)
        refine ok_iconst (pc' := 15) i164_14 rfl <| ok_iretz i164_15 rt164 (by decide) <| kt_v (pc' := 15) rfl <| ok_kz0 (pc1 := 22) (pc2 := 18) i247_15 (by decide) rfl rfl <| ok_iconst (pc' := 19) i247_18 rfl <| ok_goto (pc' := 23) i247_19 rfl <| ok_iconst (pc' := 24) i247_23 rfl <| ok_cc i247_24 rfl (cl_v o247 m9_70 na165 rfl rfl (bt rfl) (bt rfl) rfl (by rw [ShModel_k0 hS448, o165])) ln165 (pd165 (aR 448) (aI 1) (aI 3)) <| ?_
        refine ok_aloadn (pc' := 1) i165_0 rfl rfl <| ok_getfi (v := 0) (pc' := 4) i165_1 o165 gi9_63 (ShModel_k0 hS448) rd_eq rfl <| ok_kz0 (pc1 := 16) (pc2 := 7) i165_4 (by decide) rfl rfl <| ok_iloadn (pc' := 8) i165_7 rfl rfl <| ok_kz0 (pc1 := 16) (pc2 := 11) i165_8 (by decide) rfl rfl <| ok_aloadn (pc' := 12) i165_11 rfl rfl <| ok_iloadn (pc' := 13) i165_12 rfl rfl <| ok_putfj (kk := 0) (pc' := 16) i165_13 o165 pi165_63 (ShModel_k0 hS448) rfl rfl <| ?_
        refine ok_aloadn (pc' := 17) i165_16 rfl rfl <| ok_getfi (v := 3) (pc' := 20) i165_17 o165 gi9_63 (ShModel_k0 hS448) rd_eq rfl <| ok_kz0 (pc1 := 27) (pc2 := 23) i165_20 (by decide) rfl rfl <| ok_iconst (pc' := 24) i165_23 rfl <| ok_goto (pc' := 28) i165_24 rfl <| ok_iretz i165_28 rt165 (by decide) <| kt_v (pc' := 27) rfl <| ok_kz0 (pc1 := 32) (pc2 := 30) i247_27 (by decide) rfl rfl <| ?_
        refine ok_iconst (pc' := 31) i247_30 rfl <| ok_ireti i247_31 rt247 <| kt_v (pc' := 1939) rfl <| ok_istore (pc' := 1941) (ls' := [aR 1, aR 100, aR 448, aR 464, aR 465, aI i, aI 3, aI 0, w8]) i0_1939 (bt rfl) rfl rfl <| ok_aloadn (pc' := 1942) i0_1941 rfl rfl <| ok_cc i0_1942 rfl (cl_v o0 m13_188 na157 rfl rfl (bt rfl) (bt rfl) rfl (by rw [ShModel_k0 hS448, o157])) ln157 (pd157 (aR 448)) <| ok_aloadn (pc' := 1) i157_0 rfl rfl <| ok_getfi (v := 3) (pc' := 4) i157_1 o157 gi9_63 (ShModel_k0 hS448) rd_eq rfl <| ?_
        refine ok_ireti i157_4 rt157 <| kt_v (pc' := 1945) rfl <| ok_iload (pc' := 1947) i0_1945 rfl rfl <| ok_kc1 (pc1 := 1952) (pc2 := 1950) i0_1947 (by decide) rfl rfl <| ok_iload (pc' := 1954) i0_1952 rfl rfl <| ok_kz1 (pc1 := 1969) (pc2 := 1957) i0_1954 (by decide) rfl rfl <| ok_goto (pc' := 3329) i0_1969 rfl <| ?_
        exact K _ _ _ _ _ _ hD (by omega) (Inv_mono (Inv_same hI (Same.thr (Same.thr Same.rfl))) (by omega))
      · refine ok_iloadn (pc' := 6) i104_5 rfl rfl <| ok_iloadn (pc' := 7) i104_6 rfl rfl <| ?_
        refine ok_cle (pc1 := 21) (pc2 := 10) i104_7 (by omega) rfl rfl (fun h508 => ?_) (fun h508 => ?_)
        · refine ok_vret i104_21 rt104 <| kt_0 (pc' := 15) rfl <| ok_aloadn (pc' := 16) i130_15 rfl rfl <| ok_getfr (r := 174) (pc' := 19) i130_16 o130 gr0_55 (ShYard_k0 hS100) (ShYard_r10 hS100) rfl <| ok_iloadn (pc' := 20) i130_19 rfl rfl <| ok_iloadn (pc' := 21) i130_20 rfl rfl <| ?_
          refine ok_cn (pc' := 24) (d0 := 5) i130_21 rfl (cl_v o130 m0_253 na55 rfl rfl (bt rfl) (bt rfl) rfl (by rw [ShTrial_k0 hS174, o55])) ln55 (pd55 (aR 174) (aI v1) (aI v2)) (by omega) (t55 (x1 := v1) (x2 := v2) hS174 hS199 hS138 hS175 hS149 hP hRB hQ hV (by omega) (by omega) (by omega) (by omega) (by omega)) rfl (fun M509 p510 => ?_)
          refine ok_ireti i130_24 rt130 <| kt_v (pc' := 8) rfl <| ok_i2l (v := (wr (fulS q s v1 ((414 + (8 * v2)) + 4)))) (pc' := 9) i305_8 rfl rfl <| ok_lastore (pc' := 10) i305_9 (ShOut_k0 hS464) (ShOut_l0 hS464) (by decide) rfl <| ok_goto (pc' := 25) i305_10 rfl <| ok_iconst (pc' := 26) i305_25 rfl <| ok_ireti i305_26 rt305 <| kt_v (pc' := 1921) rfl <| ?_
          refine ok_istore (pc' := 1923) (ls' := [aR 1, aR 100, aR 448, aR 464, aR 465, aI i, aI 0, w7, w8]) i0_1921 (bt rfl) rfl rfl <| ok_aloadn (pc' := 1924) i0_1923 rfl rfl <| ok_aloadn (pc' := 1925) i0_1924 rfl rfl <| ok_iload (pc' := 1927) i0_1925 rfl rfl <| ok_iconst (pc' := 1928) i0_1927 rfl <| ok_iadd (v := (i + 1)) (pc' := 1929) i0_1928 rfl rfl <| ok_iaload (v := v1) (pc' := 1930) i0_1929 (ShScr_k0 hS1) (by decide) (ShScr_l0 hS1) (by omega) (rd_na (by omega) (Eq.trans (congrFun (p510 1 (by omega)) (i + 1)) hv1)) rfl <| ok_aloadn (pc' := 1931) i0_1930 rfl rfl <| ?_
          refine ok_iload (pc' := 1933) i0_1931 rfl rfl <| ok_iconst (pc' := 1934) i0_1933 rfl <| ok_iadd (v := (i + 2)) (pc' := 1935) i0_1934 rfl rfl <| ok_iaload (v := v2) (pc' := 1936) i0_1935 (ShScr_k0 hS1) (by decide) (ShScr_l0 hS1) (by omega) (rd_na (by omega) (Eq.trans (congrFun (p510 1 (by omega)) (i + 2)) hv2)) rfl <| ok_cc i0_1936 rfl (cl_v o0 m13_287 na247 rfl rfl (bt rfl) (bt rfl) rfl (by rw [ShModel_k0 hS448, o247])) ln247 (pd247 (aR 448) (aI v1) (aI v2)) <| ok_aloadn (pc' := 1) i247_0 rfl rfl <| ok_iloadn (pc' := 2) i247_1 rfl rfl <| ok_cc i247_2 rfl (cl_v o247 m9_244 na199 rfl rfl (bt rfl) (bt rfl) rfl (by rw [ShModel_k0 hS448, o199])) ln199 (pd199 (aR 448) (aI v2)) <| ?_
          refine ok_aloadn (pc' := 1) i199_0 rfl rfl <| ok_cc i199_1 rfl (cl_v o199 m9_216 na188 rfl rfl (bt rfl) (bt rfl) rfl (by rw [ShModel_k0 hS448, o188])) ln188 (pd188 (aR 448)) <| ok_aloadn (pc' := 1) i188_0 rfl rfl <| ok_iconst (pc' := 2) i188_1 rfl <| ok_putfj (kk := 0) (pc' := 5) i188_2 o188 pi188_63 (ShModel_k0 hS448) rfl rfl <| ok_aloadn (pc' := 6) i188_5 rfl rfl <| ok_aloadn (pc' := 7) i188_6 rfl rfl <| ?_
          have hCM509_448 : RepO M509 448 q s := RepO.fr hO ⟨((congrFun (p510 448 (by omega)) 2).trans (by rfl)), ((congrFun (p510 448 (by omega)) 3).trans (by rfl))⟩ (fun a h1 h2 => (p510 a (by omega)).trans rfl)
          refine ok_getfi (v := 1) (pc' := 10) i188_7 o188 gi9_66 (ShModel_k0 hS448) (rd_ni (by decide) (rd_na (by omega) (Eq.trans (congrFun (p510 448 (by omega)) 1) (hld.trans hl)))) rfl <| ok_kz1 (pc1 := 17) (pc2 := 13) i188_10 (by decide) rfl rfl <| ok_iconst (pc' := 18) i188_17 rfl <| ok_iconst (pc' := 19) i188_18 rfl <| ok_cc i188_19 rfl (cl_v o188 m9_70 na165 rfl rfl (bt rfl) (bt rfl) rfl (by rw [ShModel_k0 hS448, o165])) ln165 (pd165 (aR 448) (aI 0) (aI 1)) <| ok_aloadn (pc' := 1) i165_0 rfl rfl <| ok_getfi (v := 0) (pc' := 4) i165_1 o165 gi9_63 (ShModel_k0 hS448) rd_eq rfl <| ok_kz0 (pc1 := 16) (pc2 := 7) i165_4 (by decide) rfl rfl <| ?_
          refine ok_iloadn (pc' := 8) i165_7 rfl rfl <| ok_kz1 (pc1 := 16) (pc2 := 11) i165_8 (by decide) rfl rfl <| ok_aloadn (pc' := 17) i165_16 rfl rfl <| ok_getfi (v := 0) (pc' := 20) i165_17 o165 gi9_63 (ShModel_k0 hS448) rd_eq rfl <| ok_kz1 (pc1 := 27) (pc2 := 23) i165_20 (by decide) rfl rfl <| ok_iconst (pc' := 28) i165_27 rfl <| ok_iretz i165_28 rt165 (by decide) <| kt_v (pc' := 22) rfl <| ?_
          refine ok_iretz i188_22 rt188 (by decide) <| kt_v (pc' := 4) rfl <| ok_kz0 (pc1 := 36) (pc2 := 7) i199_4 (by decide) rfl rfl <| ok_aloadn (pc' := 8) i199_7 rfl rfl <| ok_iloadn (pc' := 9) i199_8 rfl rfl <| ok_iconst (pc' := 10) i199_9 rfl <| ok_aloadn (pc' := 11) i199_10 rfl rfl <| ok_getfr (r := (448 + 5)) (pc' := 14) i199_11 o199 gr9_22 (ShModel_k0 hS448) (ShModel_r8 hS448) rfl <| ?_
          refine ok_iconst (pc' := 15) i199_14 rfl <| ok_iaload (v := (s 4)) (pc' := 16) i199_15 (ShModel_k5 hS448) (by decide) (ShModel_l5 hS448) (by decide) (rd_na (by omega) (rd_na (by omega) (RepO_s hCM509_448))) rfl <| ok_iconst (pc' := 17) i199_16 rfl <| ok_isub (v := ((s 4) - 1)) (pc' := 18) i199_17 rfl rfl <| ok_cc i199_18 rfl (cl_s o199 m9_140 na164 rfl rfl (bt rfl) (bt rfl) rfl) ln164 (pd164 (aI v2) (aI 0) (aI ((s 4) - 1))) <| ok_iloadn (pc' := 1) i164_0 rfl rfl <| ok_iloadn (pc' := 2) i164_1 rfl rfl <| ?_
          refine ok_clt (pc1 := 14) (pc2 := 5) i164_2 (by omega) rfl rfl (fun h9 => by exfalso; omega) (fun h511 => ?_)
          refine ok_iloadn (pc' := 6) i164_5 rfl rfl <| ok_iloadn (pc' := 7) i164_6 rfl rfl <| ?_
          refine ok_cgt (pc1 := 14) (pc2 := 10) i164_7 (by omega) rfl rfl (fun h9 => by exfalso; omega) (fun h512 => ?_)
          refine ok_iconst (pc' := 11) i164_10 rfl <| ok_goto (pc' := 15) i164_11 rfl <| ok_iretz i164_15 rt164 (by decide) <| kt_v (pc' := 21) rfl <| ok_kz1 (pc1 := 28) (pc2 := 24) i199_21 (by decide) rfl rfl <| ok_iconst (pc' := 29) i199_28 rfl <| ok_iconst (pc' := 30) i199_29 rfl <| ok_cc i199_30 rfl (cl_v o199 m9_70 na165 rfl rfl (bt rfl) (bt rfl) rfl (by rw [ShModel_k0 hS448, o165])) ln165 (pd165 (aR 448) (aI 0) (aI 2)) <| ?_
          refine ok_aloadn (pc' := 1) i165_0 rfl rfl <| ok_getfi (v := 0) (pc' := 4) i165_1 o165 gi9_63 (ShModel_k0 hS448) rd_eq rfl <| ok_kz0 (pc1 := 16) (pc2 := 7) i165_4 (by decide) rfl rfl <| ok_iloadn (pc' := 8) i165_7 rfl rfl <| ok_kz1 (pc1 := 16) (pc2 := 11) i165_8 (by decide) rfl rfl <| ok_aloadn (pc' := 17) i165_16 rfl rfl <| ok_getfi (v := 0) (pc' := 20) i165_17 o165 gi9_63 (ShModel_k0 hS448) rd_eq rfl <| ok_kz1 (pc1 := 27) (pc2 := 23) i165_20 (by decide) rfl rfl <| ?_
          refine ok_iconst (pc' := 28) i165_27 rfl <| ok_iretz i165_28 rt165 (by decide) <| kt_v (pc' := 33) rfl <| ok_kz1 (pc1 := 40) (pc2 := 36) i199_33 (by decide) rfl rfl <| ok_iconst (pc' := 41) i199_40 rfl <| ok_iretz i199_41 rt199 (by decide) <| kt_v (pc' := 5) rfl <| ok_kz0 (pc1 := 30) (pc2 := 8) i247_5 (by decide) rfl rfl <| ?_
          refine ok_aloadn (pc' := 9) i247_8 rfl rfl <| ok_iloadn (pc' := 10) i247_9 rfl rfl <| ok_iconst (pc' := 11) i247_10 rfl <| ok_iconst (pc' := 12) i247_11 rfl <| ok_cc i247_12 rfl (cl_s o247 m9_140 na164 rfl rfl (bt rfl) (bt rfl) rfl) ln164 (pd164 (aI v1) (aI 0) (aI 3)) <| ok_iloadn (pc' := 1) i164_0 rfl rfl <| ok_iloadn (pc' := 2) i164_1 rfl rfl <| ?_
          refine ok_clt (pc1 := 14) (pc2 := 5) i164_2 (by omega) rfl rfl (fun h9 => by exfalso; omega) (fun h513 => ?_)
          refine ok_iloadn (pc' := 6) i164_5 rfl rfl <| ok_iloadn (pc' := 7) i164_6 rfl rfl <| ?_
          refine ok_cgt (pc1 := 14) (pc2 := 10) i164_7 (by omega) rfl rfl (fun h9 => by exfalso; omega) (fun h514 => ?_)
          refine ok_iconst (pc' := 11) i164_10 rfl <| ok_goto (pc' := 15) i164_11 rfl <| ok_iretz i164_15 rt164 (by decide) <| kt_v (pc' := 15) rfl <| ok_kz1 (pc1 := 22) (pc2 := 18) i247_15 (by decide) rfl rfl <| ok_iconst (pc' := 23) i247_22 rfl <| ok_iconst (pc' := 24) i247_23 rfl <| ok_cc i247_24 rfl (cl_v o247 m9_70 na165 rfl rfl (bt rfl) (bt rfl) rfl (by rw [ShModel_k0 hS448, o165])) ln165 (pd165 (aR 448) (aI 0) (aI 3)) <| ?_
          refine ok_aloadn (pc' := 1) i165_0 rfl rfl <| ok_getfi (v := 0) (pc' := 4) i165_1 o165 gi9_63 (ShModel_k0 hS448) rd_eq rfl <| ok_kz0 (pc1 := 16) (pc2 := 7) i165_4 (by decide) rfl rfl <| ok_iloadn (pc' := 8) i165_7 rfl rfl <| ok_kz1 (pc1 := 16) (pc2 := 11) i165_8 (by decide) rfl rfl <| ok_aloadn (pc' := 17) i165_16 rfl rfl <| ok_getfi (v := 0) (pc' := 20) i165_17 o165 gi9_63 (ShModel_k0 hS448) rd_eq rfl <| ok_kz1 (pc1 := 27) (pc2 := 23) i165_20 (by decide) rfl rfl <| ?_
          refine ok_iconst (pc' := 28) i165_27 rfl <| ok_iretz i165_28 rt165 (by decide) <| kt_v (pc' := 27) rfl <| ok_kz1 (pc1 := 32) (pc2 := 30) i247_27 (by decide) rfl rfl <| ok_aloadn (pc' := 33) i247_32 rfl rfl <| ok_iconst (pc' := 34) i247_33 rfl <| ?_
          refine ok_cn0 (pc' := 37) (d0 := 0) i247_34 rfl (cl_v o247 m9_314 na234 rfl rfl (bt rfl) (bt rfl) rfl (by rw [ShModel_k0 hS448, o234])) ln234 (pd234 (aR 448) (aI 0)) (by omega) (t234 (x1 := 0) hS448 (by omega)) rfl (fun M515 p516 => ?_)
          refine ok_aloadn (pc' := 38) i247_37 rfl rfl <| ok_iloadn (pc' := 39) i247_38 rfl rfl <| ?_
          have hCM515_448 : RepO M515 448 q s := RepO.fr hCM509_448 ⟨((congrFun (WI.na (keep_wi p516) (c := 448) (by omega)) 2).trans (by rw [up2_rd, if_neg (by omega), up2_na (by omega)])), ((congrFun (WI.na (keep_wi p516) (c := 448) (by omega)) 3).trans (by rw [up2_rd, if_neg (by omega), up2_na (by omega)]))⟩ (fun a h1 h2 => (WI.na (keep_wi p516) (by omega)).trans (by rw [up2_na (by omega), up2_na (by omega)]))
          refine ok_cn (pc' := 42) (d0 := 6) i247_39 rfl (cl_v o247 m9_317 na235 rfl rfl (bt rfl) (bt rfl) rfl (by rw [ShModel_k0 hS448, o235])) ln235 (pd235 (aR 448) (aI v1)) (by omega) (t235 (x1 := v1) hS448 hCM515_448 hV hQ (by omega) (by omega)) rfl (fun M517 p518 => ?_)
          refine ok_istoren (pc' := 43) (ls' := [aR 448, aI v1, aI v2, aI (fulN q s v1), aU]) i247_42 (bt rfl) rfl rfl <| ok_aloadn (pc' := 44) i247_43 rfl rfl <| ok_iloadn (pc' := 45) i247_44 rfl rfl <| ok_iconst (pc' := 46) i247_45 rfl <| ok_cc i247_46 rfl (cl_v o247 m9_226 na191 rfl rfl (bt rfl) (bt rfl) rfl (by rw [ShModel_k0 hS448, o191])) ln191 (pd191 (aR 448) (aI v2) (aI 4)) <| ok_aloadn (pc' := 1) i191_0 rfl rfl <| ok_getfr (r := (448 + 5)) (pc' := 4) i191_1 o191 gr9_22 (ShModel_k0 hS448) (ShModel_r8 hS448) rfl <| ok_sipush (v := 414) (pc' := 7) i191_4 rfl rfl <| ?_
          refine ok_bipush (v := 8) (pc' := 9) i191_7 rfl rfl <| ok_iloadn (pc' := 10) i191_9 rfl rfl <| ok_imul (v := (8 * v2)) (pc' := 11) i191_10 rfl rfl <| ok_iadd (v := (414 + (8 * v2))) (pc' := 12) i191_11 rfl rfl <| ok_iloadn (pc' := 13) i191_12 rfl rfl <| ok_iadd (v := ((414 + (8 * v2)) + 4)) (pc' := 14) i191_13 rfl rfl <| ok_iaload (v := ((fulS q s v1) ((414 + (8 * v2)) + 4))) (pc' := 15) i191_14 (ShModel_k5 hS448) (by decide) (ShModel_l5 hS448) (by omega) (RepO_s (RepO_of p518 hCM515_448)) rfl <| ok_ireti i191_15 rt191 <| ?_
          refine kt_v (pc' := 49) rfl <| ok_istore (pc' := 51) (ls' := [aR 448, aI v1, aI v2, aI (fulN q s v1), aI ((fulS q s v1) ((414 + (8 * v2)) + 4))]) i247_49 (bt rfl) rfl rfl <| ok_aloadn (pc' := 52) i247_51 rfl rfl <| ok_iconst (pc' := 53) i247_52 rfl <| ?_
          refine ok_cn0 (pc' := 56) (d0 := 0) i247_53 rfl (cl_v o247 m9_323 na242 rfl rfl (bt rfl) (bt rfl) rfl (by rw [ShModel_k0 hS448, o242])) ln242 (pd242 (aR 448) (aI 0)) (by omega) (t242k hS448 p516 p518 (by rw [show (up2 (up2 M509 464 0 (wr (fulS q s v1 ((414 + (8 * v2)) + 4)))) 448 0 0) (448 + 5) = s from (RepO.fr hCM509_448 ⟨(by rw [up2_rd, if_neg (by omega), up2_na (by omega)]), (by rw [up2_rd, if_neg (by omega), up2_na (by omega)])⟩ (fun a h1 h2 => (by rw [up2_na (by omega), up2_na (by omega)]))).1]; exact (out_ful hV _).1)) rfl (fun M519 p520 => ?_)
          refine ok_iload (pc' := 58) i247_56 rfl rfl <| ok_ireti i247_58 rt247 <| kt_v (pc' := 1939) rfl <| ok_istore (pc' := 1941) (ls' := [aR 1, aR 100, aR 448, aR 464, aR 465, aI i, aI 0, aI ((fulS q s v1) ((414 + (8 * v2)) + 4)), w8]) i0_1939 (bt rfl) rfl rfl <| ok_aloadn (pc' := 1942) i0_1941 rfl rfl <| ok_cc i0_1942 rfl (cl_v o0 m13_188 na157 rfl rfl (bt rfl) (bt rfl) rfl (by rw [ShModel_k0 hS448, o157])) ln157 (pd157 (aR 448)) <| ok_aloadn (pc' := 1) i157_0 rfl rfl <| ?_
          have hCM519_448 : RepO M519 448 q s := RepO.fr hCM515_448 ⟨((congrFun (congrFun p520 448) 2).trans (by rfl)), ((congrFun (congrFun p520 448) 3).trans (by rfl))⟩ (fun a h1 h2 => (congrFun p520 a).trans rfl)
          refine ok_getfi (v := 0) (pc' := 4) i157_1 o157 gi9_63 (ShModel_k0 hS448) (Eq.trans (congrFun (congrFun p520 448) 0) (Eq.trans (congrFun (WI.na (keep_wi p516) (c := 448) (by omega)) 0) rd_eq)) rfl <| ok_ireti i157_4 rt157 <| kt_v (pc' := 1945) rfl <| ok_iload (pc' := 1947) i0_1945 rfl rfl <| ok_kc1 (pc1 := 1952) (pc2 := 1950) i0_1947 (by decide) rfl rfl <| ok_iload (pc' := 1954) i0_1952 rfl rfl <| ok_kz0 (pc1 := 1969) (pc2 := 1957) i0_1954 (by decide) rfl rfl <| ok_aloadn (pc' := 1958) i0_1957 rfl rfl <| ?_
          refine ok_iconst (pc' := 1959) i0_1958 rfl <| ok_laload (v := (wr (fulS q s v1 ((414 + (8 * v2)) + 4)))) (pc' := 1960) i0_1959 (ShOut_k0 hS464) (ShOut_l0 hS464) (by decide) (Eq.trans (congrFun (congrFun p520 464) 0) (Eq.trans (congrFun (WI.na (keep_wi p516) (c := 464) (by omega)) 0) (rd_na (by omega) rd_eq))) rfl <| ok_iload (pc' := 1962) i0_1960 rfl rfl <| ok_i2l (v := (wr ((fulS q s v1) ((414 + (8 * v2)) + 4)))) (pc' := 1963) i0_1962 rfl rfl <| ok_lcmpe rfl (pc' := 1964) i0_1963 rfl <| ok_kz1 (pc1 := 1969) (pc2 := 1967) i0_1964 (by decide) rfl rfl <| ok_goto (pc' := 3329) i0_1969 rfl <| ?_
          exact K _ _ _ _ _ _ hD (by omega) (Inv_mono (Inv_same hI (Same.eq (Same.wi (Same.thr (Same.out (Same.wr Same.rfl p510))) (keep_wi p516)) p520)) (by omega))
        · refine ok_throw th104_10 (bt rfl) <| kt_x hh130 <| kt_h hn305 hf305_5_11 hr305_21 <| kt_v (pc' := 1921) rfl <| ?_
          refine ok_al hD (fun g hD => ?_)
          have hS448 := HD_o hD
          have hS1 := HD_s hD
          have hS464 := HD_u hD
          have hS465 := HD_ud hD
          refine ok_istore (pc' := 1923) (ls' := [aR 1, aR 100, aR 448, aR 464, aR 465, aI i, aI 3, w7, w8]) i0_1921 (bt rfl) rfl rfl <| ok_aloadn (pc' := 1924) i0_1923 rfl rfl <| ok_aloadn (pc' := 1925) i0_1924 rfl rfl <| ok_iload (pc' := 1927) i0_1925 rfl rfl <| ok_iconst (pc' := 1928) i0_1927 rfl <| ok_iadd (v := (i + 1)) (pc' := 1929) i0_1928 rfl rfl <| ok_iaload (v := v1) (pc' := 1930) i0_1929 (ShScr_k0 hS1) (by decide) (ShScr_l0 hS1) (by omega) hv1 rfl <| ok_aloadn (pc' := 1931) i0_1930 rfl rfl <| ?_
          refine ok_iload (pc' := 1933) i0_1931 rfl rfl <| ok_iconst (pc' := 1934) i0_1933 rfl <| ok_iadd (v := (i + 2)) (pc' := 1935) i0_1934 rfl rfl <| ok_iaload (v := v2) (pc' := 1936) i0_1935 (ShScr_k0 hS1) (by decide) (ShScr_l0 hS1) (by omega) hv2 rfl <| ok_cc i0_1936 rfl (cl_v o0 m13_287 na247 rfl rfl (bt rfl) (bt rfl) rfl (by rw [ShModel_k0 hS448, o247])) ln247 (pd247 (aR 448) (aI v1) (aI v2)) <| ok_aloadn (pc' := 1) i247_0 rfl rfl <| ok_iloadn (pc' := 2) i247_1 rfl rfl <| ok_cc i247_2 rfl (cl_v o247 m9_244 na199 rfl rfl (bt rfl) (bt rfl) rfl (by rw [ShModel_k0 hS448, o199])) ln199 (pd199 (aR 448) (aI v2)) <| ?_
          refine ok_aloadn (pc' := 1) i199_0 rfl rfl <| ok_cc i199_1 rfl (cl_v o199 m9_216 na188 rfl rfl (bt rfl) (bt rfl) rfl (by rw [ShModel_k0 hS448, o188])) ln188 (pd188 (aR 448)) <| ok_aloadn (pc' := 1) i188_0 rfl rfl <| ok_iconst (pc' := 2) i188_1 rfl <| ok_putfj (kk := 0) (pc' := 5) i188_2 o188 pi188_63 (ShModel_k0 hS448) rfl rfl <| ok_aloadn (pc' := 6) i188_5 rfl rfl <| ok_aloadn (pc' := 7) i188_6 rfl rfl <| ok_getfi (v := 1) (pc' := 10) i188_7 o188 gi9_66 (ShModel_k0 hS448) (rd_ni (by decide) (hld.trans hl)) rfl <| ?_
          refine ok_kz1 (pc1 := 17) (pc2 := 13) i188_10 (by decide) rfl rfl <| ok_iconst (pc' := 18) i188_17 rfl <| ok_iconst (pc' := 19) i188_18 rfl <| ok_cc i188_19 rfl (cl_v o188 m9_70 na165 rfl rfl (bt rfl) (bt rfl) rfl (by rw [ShModel_k0 hS448, o165])) ln165 (pd165 (aR 448) (aI 0) (aI 1)) <| ok_aloadn (pc' := 1) i165_0 rfl rfl <| ok_getfi (v := 0) (pc' := 4) i165_1 o165 gi9_63 (ShModel_k0 hS448) rd_eq rfl <| ok_kz0 (pc1 := 16) (pc2 := 7) i165_4 (by decide) rfl rfl <| ok_iloadn (pc' := 8) i165_7 rfl rfl <| ?_
          refine ok_kz1 (pc1 := 16) (pc2 := 11) i165_8 (by decide) rfl rfl <| ok_aloadn (pc' := 17) i165_16 rfl rfl <| ok_getfi (v := 0) (pc' := 20) i165_17 o165 gi9_63 (ShModel_k0 hS448) rd_eq rfl <| ok_kz1 (pc1 := 27) (pc2 := 23) i165_20 (by decide) rfl rfl <| ok_iconst (pc' := 28) i165_27 rfl <| ok_iretz i165_28 rt165 (by decide) <| kt_v (pc' := 22) rfl <| ok_iretz i188_22 rt188 (by decide) <| ?_
          refine kt_v (pc' := 4) rfl <| ok_kz0 (pc1 := 36) (pc2 := 7) i199_4 (by decide) rfl rfl <| ok_aloadn (pc' := 8) i199_7 rfl rfl <| ok_iloadn (pc' := 9) i199_8 rfl rfl <| ok_iconst (pc' := 10) i199_9 rfl <| ok_aloadn (pc' := 11) i199_10 rfl rfl <| ok_getfr (r := (448 + 5)) (pc' := 14) i199_11 o199 gr9_22 (ShModel_k0 hS448) (ShModel_r8 hS448) rfl <| ok_iconst (pc' := 15) i199_14 rfl <| ?_
          refine ok_iaload (v := (s 4)) (pc' := 16) i199_15 (ShModel_k5 hS448) (by decide) (ShModel_l5 hS448) (by decide) (rd_na (by omega) (RepO_s hO)) rfl <| ok_iconst (pc' := 17) i199_16 rfl <| ok_isub (v := ((s 4) - 1)) (pc' := 18) i199_17 rfl rfl <| ok_cc i199_18 rfl (cl_s o199 m9_140 na164 rfl rfl (bt rfl) (bt rfl) rfl) ln164 (pd164 (aI v2) (aI 0) (aI ((s 4) - 1))) <| ok_iloadn (pc' := 1) i164_0 rfl rfl <| ok_iloadn (pc' := 2) i164_1 rfl rfl <| ?_
          refine ok_clt (pc1 := 14) (pc2 := 5) i164_2 (by omega) rfl rfl (fun h9 => by exfalso; omega) (fun h521 => ?_)
          refine ok_iloadn (pc' := 6) i164_5 rfl rfl <| ok_iloadn (pc' := 7) i164_6 rfl rfl <| ?_
          refine ok_cgt (pc1 := 14) (pc2 := 10) i164_7 (by omega) rfl rfl (fun h9 => by exfalso; omega) (fun h522 => ?_)
          refine ok_iconst (pc' := 11) i164_10 rfl <| ok_goto (pc' := 15) i164_11 rfl <| ok_iretz i164_15 rt164 (by decide) <| kt_v (pc' := 21) rfl <| ok_kz1 (pc1 := 28) (pc2 := 24) i199_21 (by decide) rfl rfl <| ok_iconst (pc' := 29) i199_28 rfl <| ok_iconst (pc' := 30) i199_29 rfl <| ok_cc i199_30 rfl (cl_v o199 m9_70 na165 rfl rfl (bt rfl) (bt rfl) rfl (by rw [ShModel_k0 hS448, o165])) ln165 (pd165 (aR 448) (aI 0) (aI 2)) <| ?_
          refine ok_aloadn (pc' := 1) i165_0 rfl rfl <| ok_getfi (v := 0) (pc' := 4) i165_1 o165 gi9_63 (ShModel_k0 hS448) rd_eq rfl <| ok_kz0 (pc1 := 16) (pc2 := 7) i165_4 (by decide) rfl rfl <| ok_iloadn (pc' := 8) i165_7 rfl rfl <| ok_kz1 (pc1 := 16) (pc2 := 11) i165_8 (by decide) rfl rfl <| ok_aloadn (pc' := 17) i165_16 rfl rfl <| ok_getfi (v := 0) (pc' := 20) i165_17 o165 gi9_63 (ShModel_k0 hS448) rd_eq rfl <| ok_kz1 (pc1 := 27) (pc2 := 23) i165_20 (by decide) rfl rfl <| ?_
          refine ok_iconst (pc' := 28) i165_27 rfl <| ok_iretz i165_28 rt165 (by decide) <| kt_v (pc' := 33) rfl <| ok_kz1 (pc1 := 40) (pc2 := 36) i199_33 (by decide) rfl rfl <| ok_iconst (pc' := 41) i199_40 rfl <| ok_iretz i199_41 rt199 (by decide) <| kt_v (pc' := 5) rfl <| ok_kz0 (pc1 := 30) (pc2 := 8) i247_5 (by decide) rfl rfl <| ?_
          refine ok_aloadn (pc' := 9) i247_8 rfl rfl <| ok_iloadn (pc' := 10) i247_9 rfl rfl <| ok_iconst (pc' := 11) i247_10 rfl <| ok_iconst (pc' := 12) i247_11 rfl <| ok_cc i247_12 rfl (cl_s o247 m9_140 na164 rfl rfl (bt rfl) (bt rfl) rfl) ln164 (pd164 (aI v1) (aI 0) (aI 3)) <| ok_iloadn (pc' := 1) i164_0 rfl rfl <| ok_iloadn (pc' := 2) i164_1 rfl rfl <| ?_
          refine ok_clt (pc1 := 14) (pc2 := 5) i164_2 (by omega) rfl rfl (fun h9 => by exfalso; omega) (fun h523 => ?_)
          refine ok_iloadn (pc' := 6) i164_5 rfl rfl <| ok_iloadn (pc' := 7) i164_6 rfl rfl <| ?_
          refine ok_cgt (pc1 := 14) (pc2 := 10) i164_7 (by omega) rfl rfl (fun h524 => ?_) (fun h9 => by exfalso; omega)
          refine ok_iconst (pc' := 15) i164_14 rfl <| ok_iretz i164_15 rt164 (by decide) <| kt_v (pc' := 15) rfl <| ok_kz0 (pc1 := 22) (pc2 := 18) i247_15 (by decide) rfl rfl <| ok_iconst (pc' := 19) i247_18 rfl <| ok_goto (pc' := 23) i247_19 rfl <| ok_iconst (pc' := 24) i247_23 rfl <| ok_cc i247_24 rfl (cl_v o247 m9_70 na165 rfl rfl (bt rfl) (bt rfl) rfl (by rw [ShModel_k0 hS448, o165])) ln165 (pd165 (aR 448) (aI 1) (aI 3)) <| ?_
          refine ok_aloadn (pc' := 1) i165_0 rfl rfl <| ok_getfi (v := 0) (pc' := 4) i165_1 o165 gi9_63 (ShModel_k0 hS448) rd_eq rfl <| ok_kz0 (pc1 := 16) (pc2 := 7) i165_4 (by decide) rfl rfl <| ok_iloadn (pc' := 8) i165_7 rfl rfl <| ok_kz0 (pc1 := 16) (pc2 := 11) i165_8 (by decide) rfl rfl <| ok_aloadn (pc' := 12) i165_11 rfl rfl <| ok_iloadn (pc' := 13) i165_12 rfl rfl <| ok_putfj (kk := 0) (pc' := 16) i165_13 o165 pi165_63 (ShModel_k0 hS448) rfl rfl <| ?_
          refine ok_aloadn (pc' := 17) i165_16 rfl rfl <| ok_getfi (v := 3) (pc' := 20) i165_17 o165 gi9_63 (ShModel_k0 hS448) rd_eq rfl <| ok_kz0 (pc1 := 27) (pc2 := 23) i165_20 (by decide) rfl rfl <| ok_iconst (pc' := 24) i165_23 rfl <| ok_goto (pc' := 28) i165_24 rfl <| ok_iretz i165_28 rt165 (by decide) <| kt_v (pc' := 27) rfl <| ok_kz0 (pc1 := 32) (pc2 := 30) i247_27 (by decide) rfl rfl <| ?_
          refine ok_iconst (pc' := 31) i247_30 rfl <| ok_ireti i247_31 rt247 <| kt_v (pc' := 1939) rfl <| ok_istore (pc' := 1941) (ls' := [aR 1, aR 100, aR 448, aR 464, aR 465, aI i, aI 3, aI 0, w8]) i0_1939 (bt rfl) rfl rfl <| ok_aloadn (pc' := 1942) i0_1941 rfl rfl <| ok_cc i0_1942 rfl (cl_v o0 m13_188 na157 rfl rfl (bt rfl) (bt rfl) rfl (by rw [ShModel_k0 hS448, o157])) ln157 (pd157 (aR 448)) <| ok_aloadn (pc' := 1) i157_0 rfl rfl <| ok_getfi (v := 3) (pc' := 4) i157_1 o157 gi9_63 (ShModel_k0 hS448) rd_eq rfl <| ?_
          refine ok_ireti i157_4 rt157 <| kt_v (pc' := 1945) rfl <| ok_iload (pc' := 1947) i0_1945 rfl rfl <| ok_kc1 (pc1 := 1952) (pc2 := 1950) i0_1947 (by decide) rfl rfl <| ok_iload (pc' := 1954) i0_1952 rfl rfl <| ok_kz1 (pc1 := 1969) (pc2 := 1957) i0_1954 (by decide) rfl rfl <| ok_goto (pc' := 3329) i0_1969 rfl <| ?_
          exact K _ _ _ _ _ _ hD (by omega) (Inv_mono (Inv_same hI (Same.thr (Same.thr Same.rfl))) (by omega))
    · refine ok_throw th106_15 (bt rfl) <| kt_x hh130 <| kt_h hn305 hf305_5_10 hr305_17 <| kt_v (pc' := 1921) rfl <| ?_
      refine ok_al hD (fun g hD => ?_)
      have hS448 := HD_o hD
      have hS1 := HD_s hD
      have hS464 := HD_u hD
      have hS465 := HD_ud hD
      refine ok_istore (pc' := 1923) (ls' := [aR 1, aR 100, aR 448, aR 464, aR 465, aI i, aI 2, w7, w8]) i0_1921 (bt rfl) rfl rfl <| ok_aloadn (pc' := 1924) i0_1923 rfl rfl <| ok_aloadn (pc' := 1925) i0_1924 rfl rfl <| ok_iload (pc' := 1927) i0_1925 rfl rfl <| ok_iconst (pc' := 1928) i0_1927 rfl <| ok_iadd (v := (i + 1)) (pc' := 1929) i0_1928 rfl rfl <| ok_iaload (v := v1) (pc' := 1930) i0_1929 (ShScr_k0 hS1) (by decide) (ShScr_l0 hS1) (by omega) hv1 rfl <| ok_aloadn (pc' := 1931) i0_1930 rfl rfl <| ?_
      refine ok_iload (pc' := 1933) i0_1931 rfl rfl <| ok_iconst (pc' := 1934) i0_1933 rfl <| ok_iadd (v := (i + 2)) (pc' := 1935) i0_1934 rfl rfl <| ok_iaload (v := v2) (pc' := 1936) i0_1935 (ShScr_k0 hS1) (by decide) (ShScr_l0 hS1) (by omega) hv2 rfl <| ok_cc i0_1936 rfl (cl_v o0 m13_287 na247 rfl rfl (bt rfl) (bt rfl) rfl (by rw [ShModel_k0 hS448, o247])) ln247 (pd247 (aR 448) (aI v1) (aI v2)) <| ok_aloadn (pc' := 1) i247_0 rfl rfl <| ok_iloadn (pc' := 2) i247_1 rfl rfl <| ok_cc i247_2 rfl (cl_v o247 m9_244 na199 rfl rfl (bt rfl) (bt rfl) rfl (by rw [ShModel_k0 hS448, o199])) ln199 (pd199 (aR 448) (aI v2)) <| ?_
      refine ok_aloadn (pc' := 1) i199_0 rfl rfl <| ok_cc i199_1 rfl (cl_v o199 m9_216 na188 rfl rfl (bt rfl) (bt rfl) rfl (by rw [ShModel_k0 hS448, o188])) ln188 (pd188 (aR 448)) <| ok_aloadn (pc' := 1) i188_0 rfl rfl <| ok_iconst (pc' := 2) i188_1 rfl <| ok_putfj (kk := 0) (pc' := 5) i188_2 o188 pi188_63 (ShModel_k0 hS448) rfl rfl <| ok_aloadn (pc' := 6) i188_5 rfl rfl <| ok_aloadn (pc' := 7) i188_6 rfl rfl <| ok_getfi (v := 1) (pc' := 10) i188_7 o188 gi9_66 (ShModel_k0 hS448) (rd_ni (by decide) (hld.trans hl)) rfl <| ?_
      refine ok_kz1 (pc1 := 17) (pc2 := 13) i188_10 (by decide) rfl rfl <| ok_iconst (pc' := 18) i188_17 rfl <| ok_iconst (pc' := 19) i188_18 rfl <| ok_cc i188_19 rfl (cl_v o188 m9_70 na165 rfl rfl (bt rfl) (bt rfl) rfl (by rw [ShModel_k0 hS448, o165])) ln165 (pd165 (aR 448) (aI 0) (aI 1)) <| ok_aloadn (pc' := 1) i165_0 rfl rfl <| ok_getfi (v := 0) (pc' := 4) i165_1 o165 gi9_63 (ShModel_k0 hS448) rd_eq rfl <| ok_kz0 (pc1 := 16) (pc2 := 7) i165_4 (by decide) rfl rfl <| ok_iloadn (pc' := 8) i165_7 rfl rfl <| ?_
      refine ok_kz1 (pc1 := 16) (pc2 := 11) i165_8 (by decide) rfl rfl <| ok_aloadn (pc' := 17) i165_16 rfl rfl <| ok_getfi (v := 0) (pc' := 20) i165_17 o165 gi9_63 (ShModel_k0 hS448) rd_eq rfl <| ok_kz1 (pc1 := 27) (pc2 := 23) i165_20 (by decide) rfl rfl <| ok_iconst (pc' := 28) i165_27 rfl <| ok_iretz i165_28 rt165 (by decide) <| kt_v (pc' := 22) rfl <| ok_iretz i188_22 rt188 (by decide) <| ?_
      refine kt_v (pc' := 4) rfl <| ok_kz0 (pc1 := 36) (pc2 := 7) i199_4 (by decide) rfl rfl <| ok_aloadn (pc' := 8) i199_7 rfl rfl <| ok_iloadn (pc' := 9) i199_8 rfl rfl <| ok_iconst (pc' := 10) i199_9 rfl <| ok_aloadn (pc' := 11) i199_10 rfl rfl <| ok_getfr (r := (448 + 5)) (pc' := 14) i199_11 o199 gr9_22 (ShModel_k0 hS448) (ShModel_r8 hS448) rfl <| ok_iconst (pc' := 15) i199_14 rfl <| ?_
      refine ok_iaload (v := (s 4)) (pc' := 16) i199_15 (ShModel_k5 hS448) (by decide) (ShModel_l5 hS448) (by decide) (rd_na (by omega) (RepO_s hO)) rfl <| ok_iconst (pc' := 17) i199_16 rfl <| ok_isub (v := ((s 4) - 1)) (pc' := 18) i199_17 rfl rfl <| ok_cc i199_18 rfl (cl_s o199 m9_140 na164 rfl rfl (bt rfl) (bt rfl) rfl) ln164 (pd164 (aI v2) (aI 0) (aI ((s 4) - 1))) <| ok_iloadn (pc' := 1) i164_0 rfl rfl <| ok_iloadn (pc' := 2) i164_1 rfl rfl <| ?_
      refine ok_clt (pc1 := 14) (pc2 := 5) i164_2 (by omega) rfl rfl (fun h9 => by exfalso; omega) (fun h525 => ?_)
      refine ok_iloadn (pc' := 6) i164_5 rfl rfl <| ok_iloadn (pc' := 7) i164_6 rfl rfl <| ?_
      refine ok_cgt (pc1 := 14) (pc2 := 10) i164_7 (by omega) rfl rfl (fun h526 => ?_) (fun h9 => by exfalso; omega)
      refine ok_iconst (pc' := 15) i164_14 rfl <| ok_iretz i164_15 rt164 (by decide) <| kt_v (pc' := 21) rfl <| ok_kz0 (pc1 := 28) (pc2 := 24) i199_21 (by decide) rfl rfl <| ok_iconst (pc' := 25) i199_24 rfl <| ok_goto (pc' := 29) i199_25 rfl <| ok_iconst (pc' := 30) i199_29 rfl <| ok_cc i199_30 rfl (cl_v o199 m9_70 na165 rfl rfl (bt rfl) (bt rfl) rfl (by rw [ShModel_k0 hS448, o165])) ln165 (pd165 (aR 448) (aI 1) (aI 2)) <| ?_
      refine ok_aloadn (pc' := 1) i165_0 rfl rfl <| ok_getfi (v := 0) (pc' := 4) i165_1 o165 gi9_63 (ShModel_k0 hS448) rd_eq rfl <| ok_kz0 (pc1 := 16) (pc2 := 7) i165_4 (by decide) rfl rfl <| ok_iloadn (pc' := 8) i165_7 rfl rfl <| ok_kz0 (pc1 := 16) (pc2 := 11) i165_8 (by decide) rfl rfl <| ok_aloadn (pc' := 12) i165_11 rfl rfl <| ok_iloadn (pc' := 13) i165_12 rfl rfl <| ok_putfj (kk := 0) (pc' := 16) i165_13 o165 pi165_63 (ShModel_k0 hS448) rfl rfl <| ?_
      refine ok_aloadn (pc' := 17) i165_16 rfl rfl <| ok_getfi (v := 2) (pc' := 20) i165_17 o165 gi9_63 (ShModel_k0 hS448) rd_eq rfl <| ok_kz0 (pc1 := 27) (pc2 := 23) i165_20 (by decide) rfl rfl <| ok_iconst (pc' := 24) i165_23 rfl <| ok_goto (pc' := 28) i165_24 rfl <| ok_iretz i165_28 rt165 (by decide) <| kt_v (pc' := 33) rfl <| ok_kz0 (pc1 := 40) (pc2 := 36) i199_33 (by decide) rfl rfl <| ?_
      refine ok_iconst (pc' := 37) i199_36 rfl <| ok_goto (pc' := 41) i199_37 rfl <| ok_iretz i199_41 rt199 (by decide) <| kt_v (pc' := 5) rfl <| ok_kz1 (pc1 := 30) (pc2 := 8) i247_5 (by decide) rfl rfl <| ok_iconst (pc' := 31) i247_30 rfl <| ok_ireti i247_31 rt247 <| kt_v (pc' := 1939) rfl <| ?_
      refine ok_istore (pc' := 1941) (ls' := [aR 1, aR 100, aR 448, aR 464, aR 465, aI i, aI 2, aI 0, w8]) i0_1939 (bt rfl) rfl rfl <| ok_aloadn (pc' := 1942) i0_1941 rfl rfl <| ok_cc i0_1942 rfl (cl_v o0 m13_188 na157 rfl rfl (bt rfl) (bt rfl) rfl (by rw [ShModel_k0 hS448, o157])) ln157 (pd157 (aR 448)) <| ok_aloadn (pc' := 1) i157_0 rfl rfl <| ok_getfi (v := 2) (pc' := 4) i157_1 o157 gi9_63 (ShModel_k0 hS448) rd_eq rfl <| ok_ireti i157_4 rt157 <| kt_v (pc' := 1945) rfl <| ok_iload (pc' := 1947) i0_1945 rfl rfl <| ?_
      refine ok_kc1 (pc1 := 1952) (pc2 := 1950) i0_1947 (by decide) rfl rfl <| ok_iload (pc' := 1954) i0_1952 rfl rfl <| ok_kz1 (pc1 := 1969) (pc2 := 1957) i0_1954 (by decide) rfl rfl <| ok_goto (pc' := 3329) i0_1969 rfl <| ?_
      exact K _ _ _ _ _ _ hD (by omega) (Inv_mono (Inv_same hI (Same.thr (Same.thr Same.rfl))) (by omega))
theorem c53_1 {L n : Nat} {g : AG} {M : AM} {xs : Nat → Int32} {b i : Int} {w6 w7 w8 : AV} {Q : AO → AG → AM → Prop} (hD : HD L n g) (hI : Inv xs b M) (hi : 0 ≤ i ∧ i + 6 ≤ L) (hb : 0 ≤ b ∧ b ≤ 900000) (hl : M 100 6 = 1) (K : KK L n i b xs Q) :
    Ok 10 0 3160 [aR 1, aR 100, aR 448, aR 464, aR 465, aI i, w6, w7, w8] [] g M Q := by
  have hI0 := hI
  obtain ⟨hA, hld, hl01, q, hc, ⟨nx, sz, hH, hsz⟩, hS⟩ := hI0
  have hH0 := hH
  obtain ⟨⟨hn1, hn0⟩, ⟨hz2, hz0⟩, h10, hHj⟩ := hH0
  obtain ⟨hw0, ⟨bu, by_, hb1, hb13, hbu, hZ, hU⟩, he3, he4, he5, hId, tx, hT, hUt, htl, htr⟩ := hA
  have htz := hT.2.1
  obtain ⟨s, hP, hRB, hO, hV, hQ, h40⟩ := hc hl
  have ys3 := V_3 hV
  have ys4 := V_4 hV
  have yq0 := Q_0 hQ
  have yq1 := Q_1 hQ
  have hS1 := HD_s hD
  have hS100 := HD_y hD
  have hS202 := HD_h hD
  have hS448 := HD_o hD
  have hS464 := HD_u hD
  have hS465 := HD_ud hD
  rcases (show sz = 0 ∨ 0 < sz by omega) with hx | hx
  · refine ok_aloadn (pc' := 3161) i0_3160 rfl rfl <| ok_aloadn (pc' := 3162) i0_3161 rfl rfl <| ok_cc i0_3162 rfl (cl_s o0 m13_354 na326 rfl rfl (bt rfl) (bt rfl) rfl) ln326 (pd326 (aR 100) (aR 464)) <| ok_aloadn (pc' := 1) i326_0 rfl rfl <| ok_iconst (pc' := 2) i326_1 rfl <| ok_aloadn (pc' := 3) i326_2 rfl rfl <| ok_cc i326_3 rfl (cl_v o326 m13_164 na152 rfl rfl (bt rfl) (bt rfl) rfl (by rw [ShYard_k0 hS100, o152])) ln152 (pd152 (aR 100)) <| ok_aloadn (pc' := 1) i152_0 rfl rfl <| ?_
    refine ok_getfr (r := 202) (pc' := 4) i152_1 o152 gr0_71 (ShYard_k0 hS100) (ShYard_r12 hS100) rfl <| ok_getfi (v := sz) (pc' := 7) i152_4 o152 gi0_343 (ShHist_k0 hS202) hz2 rfl <| ?_
    refine ok_zne (pc1 := 21) (pc2 := 10) i152_7 (by omega) rfl rfl (fun h9 => by exfalso; omega) (fun h501 => ?_)
    refine ok_throw th152_10 (bt rfl) <| kt_h hn326 hf326_3_12 hr326_11 <| kt_v (pc' := 3165) rfl <| ?_
    refine ok_al hD (fun g hD => ?_)
    have hS448 := HD_o hD
    have hS1 := HD_s hD
    have hS464 := HD_u hD
    have hS465 := HD_ud hD
    refine ok_istore (pc' := 3167) (ls' := [aR 1, aR 100, aR 448, aR 464, aR 465, aI i, aI 1, w7, w8]) i0_3165 (bt rfl) rfl rfl <| ok_aloadn (pc' := 3168) i0_3167 rfl rfl <| ok_cc i0_3168 rfl (cl_v o0 m13_356 na276 rfl rfl (bt rfl) (bt rfl) rfl (by rw [ShModel_k0 hS448, o276])) ln276 (pd276 (aR 448)) <| ok_aloadn (pc' := 1) i276_0 rfl rfl <| ok_iconst (pc' := 2) i276_1 rfl <| ok_putfj (kk := 0) (pc' := 5) i276_2 o276 pi276_63 (ShModel_k0 hS448) rfl rfl <| ok_aloadn (pc' := 6) i276_5 rfl rfl <| ok_aloadn (pc' := 7) i276_6 rfl rfl <| ?_
    refine ok_getfi (v := sz) (pc' := 10) i276_7 o276 gi9_213 (ShModel_k0 hS448) (rd_ni (by decide) h10) rfl <| ?_
    refine ok_zne (pc1 := 17) (pc2 := 13) i276_10 (by omega) rfl rfl (fun h9 => by exfalso; omega) (fun h502 => ?_)
    refine ok_iconst (pc' := 14) i276_13 rfl <| ok_goto (pc' := 18) i276_14 rfl <| ok_iconst (pc' := 19) i276_18 rfl <| ok_cc i276_19 rfl (cl_v o276 m9_70 na165 rfl rfl (bt rfl) (bt rfl) rfl (by rw [ShModel_k0 hS448, o165])) ln165 (pd165 (aR 448) (aI 1) (aI 1)) <| ok_aloadn (pc' := 1) i165_0 rfl rfl <| ok_getfi (v := 0) (pc' := 4) i165_1 o165 gi9_63 (ShModel_k0 hS448) rd_eq rfl <| ok_kz0 (pc1 := 16) (pc2 := 7) i165_4 (by decide) rfl rfl <| ok_iloadn (pc' := 8) i165_7 rfl rfl <| ?_
    refine ok_kz0 (pc1 := 16) (pc2 := 11) i165_8 (by decide) rfl rfl <| ok_aloadn (pc' := 12) i165_11 rfl rfl <| ok_iloadn (pc' := 13) i165_12 rfl rfl <| ok_putfj (kk := 0) (pc' := 16) i165_13 o165 pi165_63 (ShModel_k0 hS448) rfl rfl <| ok_aloadn (pc' := 17) i165_16 rfl rfl <| ok_getfi (v := 1) (pc' := 20) i165_17 o165 gi9_63 (ShModel_k0 hS448) rd_eq rfl <| ok_kz0 (pc1 := 27) (pc2 := 23) i165_20 (by decide) rfl rfl <| ok_iconst (pc' := 24) i165_23 rfl <| ?_
    refine ok_goto (pc' := 28) i165_24 rfl <| ok_iretz i165_28 rt165 (by decide) <| kt_v (pc' := 22) rfl <| ok_kz0 (pc1 := 27) (pc2 := 25) i276_22 (by decide) rfl rfl <| ok_iconst (pc' := 26) i276_25 rfl <| ok_ireti i276_26 rt276 <| kt_v (pc' := 3171) rfl <| ok_istore (pc' := 3173) (ls' := [aR 1, aR 100, aR 448, aR 464, aR 465, aI i, aI 1, aI 0, w8]) i0_3171 (bt rfl) rfl rfl <| ?_
    refine ok_aloadn (pc' := 3174) i0_3173 rfl rfl <| ok_cc i0_3174 rfl (cl_v o0 m13_188 na157 rfl rfl (bt rfl) (bt rfl) rfl (by rw [ShModel_k0 hS448, o157])) ln157 (pd157 (aR 448)) <| ok_aloadn (pc' := 1) i157_0 rfl rfl <| ok_getfi (v := 1) (pc' := 4) i157_1 o157 gi9_63 (ShModel_k0 hS448) rd_eq rfl <| ok_ireti i157_4 rt157 <| kt_v (pc' := 3177) rfl <| ok_iload (pc' := 3179) i0_3177 rfl rfl <| ok_kc1 (pc1 := 3184) (pc2 := 3182) i0_3179 (by decide) rfl rfl <| ?_
    refine ok_iload (pc' := 3186) i0_3184 rfl rfl <| ok_kz1 (pc1 := 3201) (pc2 := 3189) i0_3186 (by decide) rfl rfl <| ok_goto (pc' := 3329) i0_3201 rfl <| ?_
    exact K _ _ _ _ _ _ hD (by omega) (Inv_mono (Inv_same hI (Same.thr (Same.thr Same.rfl))) (by omega))
  · obtain ⟨s1, hRs, hKs, hVs, h4s⟩ := Hst_top hH hx
    refine ok_aloadn (pc' := 3161) i0_3160 rfl rfl <| ok_aloadn (pc' := 3162) i0_3161 rfl rfl <| ok_cc i0_3162 rfl (cl_s o0 m13_354 na326 rfl rfl (bt rfl) (bt rfl) rfl) ln326 (pd326 (aR 100) (aR 464)) <| ok_aloadn (pc' := 1) i326_0 rfl rfl <| ok_iconst (pc' := 2) i326_1 rfl <| ok_aloadn (pc' := 3) i326_2 rfl rfl <| ok_cc i326_3 rfl (cl_v o326 m13_164 na152 rfl rfl (bt rfl) (bt rfl) rfl (by rw [ShYard_k0 hS100, o152])) ln152 (pd152 (aR 100)) <| ok_aloadn (pc' := 1) i152_0 rfl rfl <| ?_
    refine ok_getfr (r := 202) (pc' := 4) i152_1 o152 gr0_71 (ShYard_k0 hS100) (ShYard_r12 hS100) rfl <| ok_getfi (v := sz) (pc' := 7) i152_4 o152 gi0_343 (ShHist_k0 hS202) hz2 rfl <| ?_
    refine ok_zne (pc1 := 21) (pc2 := 10) i152_7 (by omega) rfl rfl (fun h501 => ?_) (fun h9 => by exfalso; omega)
    refine ok_aloadn (pc' := 22) i152_21 rfl rfl <| ok_getfr (r := 202) (pc' := 25) i152_22 o152 gr0_71 (ShYard_k0 hS100) (ShYard_r12 hS100) rfl <| ok_aloadn (pc' := 26) i152_25 rfl rfl <| ok_getfr (r := 149) (pc' := 29) i152_26 o152 gr0_39 (ShYard_k0 hS100) (ShYard_r8 hS100) rfl <| ?_
    refine ok_cn0 (pc' := 32) (d0 := 1) i152_29 rfl (cl_v o152 m0_349 na65 rfl rfl (bt rfl) (bt rfl) rfl (by rw [ShHist_k0 hS202, o65])) ln65 (pd65 (aR 202) (aR 149)) (by omega) (t65 hD hRs hVs hQ hn1 hn0 hz2 hz0 hx) rfl (fun M502 p503 => ?_)
    refine ok_aloadn (pc' := 33) i152_32 rfl rfl <| ok_getfr (r := 202) (pc' := 36) i152_33 o152 gr0_71 (ShYard_k0 hS100) (ShYard_r12 hS100) rfl <| ok_getfi (v := (sz - 1)) (pc' := 39) i152_36 o152 gi0_343 (ShHist_k0 hS202) p503.2.2.1 rfl <| ok_ireti i152_39 rt152 <| kt_v (pc' := 6) rfl <| ok_i2l (v := (wr (sz - 1))) (pc' := 7) i326_6 rfl rfl <| ok_lastore (pc' := 8) i326_7 (ShOut_k0 hS464) (ShOut_l0 hS464) (by decide) rfl <| ok_goto (pc' := 14) i326_8 rfl <| ?_
    refine ok_iconst (pc' := 15) i326_14 rfl <| ok_ireti i326_15 rt326 <| kt_v (pc' := 3165) rfl <| ok_istore (pc' := 3167) (ls' := [aR 1, aR 100, aR 448, aR 464, aR 465, aI i, aI 0, w7, w8]) i0_3165 (bt rfl) rfl rfl <| ok_aloadn (pc' := 3168) i0_3167 rfl rfl <| ok_cc i0_3168 rfl (cl_v o0 m13_356 na276 rfl rfl (bt rfl) (bt rfl) rfl (by rw [ShModel_k0 hS448, o276])) ln276 (pd276 (aR 448)) <| ok_aloadn (pc' := 1) i276_0 rfl rfl <| ok_iconst (pc' := 2) i276_1 rfl <| ?_
    refine ok_putfj (kk := 0) (pc' := 5) i276_2 o276 pi276_63 (ShModel_k0 hS448) rfl rfl <| ok_aloadn (pc' := 6) i276_5 rfl rfl <| ok_aloadn (pc' := 7) i276_6 rfl rfl <| ?_
    have hCM502_448 : RepO M502 448 q s := RepO.fr hO ⟨((congrFun (p503.2.2.2 448 (by omega) (by omega)) 2).trans (by rfl)), ((congrFun (p503.2.2.2 448 (by omega) (by omega)) 3).trans (by rfl))⟩ (fun a h1 h2 => (p503.2.2.2 a (by omega) (by omega)).trans rfl)
    refine ok_getfi (v := sz) (pc' := 10) i276_7 o276 gi9_213 (ShModel_k0 hS448) (rd_ni (by decide) (rd_na (by omega) (Eq.trans (congrFun (p503.2.2.2 448 (by omega) (by omega)) 10) h10))) rfl <| ?_
    refine ok_zne (pc1 := 17) (pc2 := 13) i276_10 (by omega) rfl rfl (fun h504 => ?_) (fun h9 => by exfalso; omega)
    refine ok_iconst (pc' := 18) i276_17 rfl <| ok_iconst (pc' := 19) i276_18 rfl <| ok_cc i276_19 rfl (cl_v o276 m9_70 na165 rfl rfl (bt rfl) (bt rfl) rfl (by rw [ShModel_k0 hS448, o165])) ln165 (pd165 (aR 448) (aI 0) (aI 1)) <| ok_aloadn (pc' := 1) i165_0 rfl rfl <| ok_getfi (v := 0) (pc' := 4) i165_1 o165 gi9_63 (ShModel_k0 hS448) rd_eq rfl <| ok_kz0 (pc1 := 16) (pc2 := 7) i165_4 (by decide) rfl rfl <| ok_iloadn (pc' := 8) i165_7 rfl rfl <| ok_kz1 (pc1 := 16) (pc2 := 11) i165_8 (by decide) rfl rfl <| ?_
    refine ok_aloadn (pc' := 17) i165_16 rfl rfl <| ok_getfi (v := 0) (pc' := 20) i165_17 o165 gi9_63 (ShModel_k0 hS448) rd_eq rfl <| ok_kz1 (pc1 := 27) (pc2 := 23) i165_20 (by decide) rfl rfl <| ok_iconst (pc' := 28) i165_27 rfl <| ok_iretz i165_28 rt165 (by decide) <| kt_v (pc' := 22) rfl <| ok_kz1 (pc1 := 27) (pc2 := 25) i276_22 (by decide) rfl rfl <| ok_aloadn (pc' := 28) i276_27 rfl rfl <| ?_
    refine ok_dup (pc' := 29) i276_28 rfl rfl <| ok_getfi (v := sz) (pc' := 32) i276_29 o276 gi9_213 (ShModel_k0 hS448) (rd_ni (by decide) (rd_na (by omega) (Eq.trans (congrFun (p503.2.2.2 448 (by omega) (by omega)) 10) h10))) rfl <| ok_iconst (pc' := 33) i276_32 rfl <| ok_isub (v := (sz - 1)) (pc' := 34) i276_33 rfl rfl <| ok_putfj (kk := 10) (pc' := 37) i276_34 o276 pi276_213 (ShModel_k0 hS448) rfl rfl <| ok_aloadn (pc' := 38) i276_37 rfl rfl <| ok_iconst (pc' := 39) i276_38 rfl <| ok_aloadn (pc' := 40) i276_39 rfl rfl <| ?_
    refine ok_getfi (v := (sz - 1)) (pc' := 43) i276_40 o276 gi9_213 (ShModel_k0 hS448) rd_eq rfl <| ok_iadd (v := (1 + (sz - 1))) (pc' := 44) i276_43 rfl rfl <| ?_
    refine ok_cn0 (pc' := 47) (d0 := 0) i276_44 rfl (cl_v o276 m9_323 na242 rfl rfl (bt rfl) (bt rfl) rfl (by rw [ShModel_k0 hS448, o242])) ln242 (pd242 (aR 448) (aI (1 + (sz - 1)))) (by omega) (t242 (x1 := (1 + (sz - 1))) hS448 (by omega)) rfl (fun M505 p506 => ?_)
    refine ok_aloadn (pc' := 48) i276_47 rfl rfl <| ok_getfi (v := (sz - 1)) (pc' := 51) i276_48 o276 gi9_213 (ShModel_k0 hS448) (Eq.trans (congrFun (upM_fr p506 (a := 448) (by omega)) 10) rd_eq) rfl <| ok_ireti i276_51 rt276 <| kt_v (pc' := 3171) rfl <| ok_istore (pc' := 3173) (ls' := [aR 1, aR 100, aR 448, aR 464, aR 465, aI i, aI 0, aI (sz - 1), w8]) i0_3171 (bt rfl) rfl rfl <| ok_aloadn (pc' := 3174) i0_3173 rfl rfl <| ok_cc i0_3174 rfl (cl_v o0 m13_188 na157 rfl rfl (bt rfl) (bt rfl) rfl (by rw [ShModel_k0 hS448, o157])) ln157 (pd157 (aR 448)) <| ok_aloadn (pc' := 1) i157_0 rfl rfl <| ?_
    refine ok_getfi (v := 0) (pc' := 4) i157_1 o157 gi9_63 (ShModel_k0 hS448) (Eq.trans (congrFun (upM_fr p506 (a := 448) (by omega)) 0) (rd_ni (by decide) rd_eq)) rfl <| ok_ireti i157_4 rt157 <| kt_v (pc' := 3177) rfl <| ok_iload (pc' := 3179) i0_3177 rfl rfl <| ok_kc1 (pc1 := 3184) (pc2 := 3182) i0_3179 (by decide) rfl rfl <| ok_iload (pc' := 3186) i0_3184 rfl rfl <| ok_kz0 (pc1 := 3201) (pc2 := 3189) i0_3186 (by decide) rfl rfl <| ok_aloadn (pc' := 3190) i0_3189 rfl rfl <| ?_
    refine ok_iconst (pc' := 3191) i0_3190 rfl <| ok_laload (v := (wr (sz - 1))) (pc' := 3192) i0_3191 (ShOut_k0 hS464) (ShOut_l0 hS464) (by decide) (Eq.trans (congrFun (upM_fr p506 (a := 464) (by omega)) 0) (rd_na (by omega) (rd_na (by omega) rd_eq))) rfl <| ok_iload (pc' := 3194) i0_3192 rfl rfl <| ok_i2l (v := (wr (sz - 1))) (pc' := 3195) i0_3194 rfl rfl <| ok_lcmp0 (pc' := 3196) i0_3195 rfl <| ok_kz1 (pc1 := 3201) (pc2 := 3199) i0_3196 (by decide) rfl rfl <| ok_goto (pc' := 3329) i0_3201 rfl <| ?_
    exact K _ _ _ _ _ _ hD (by omega) (Inv_mono (Inv_undo (x := (1 + (sz - 1))) hI hl ⟨hP, hRB, hO, hV, hQ, h40⟩ hH hS hx hKs hVs h4s p503 (by omega) rfl p506) (by omega))
theorem c53_0 {L n : Nat} {g : AG} {M : AM} {xs : Nat → Int32} {b i : Int} {w6 w7 w8 : AV} {Q : AO → AG → AM → Prop} (hD : HD L n g) (hI : Inv xs b M) (hi : 0 ≤ i ∧ i + 6 ≤ L) (hb : 0 ≤ b ∧ b ≤ 900000) (hl : M 100 6 = 0) (K : KK L n i b xs Q) :
    Ok 10 0 3160 [aR 1, aR 100, aR 448, aR 464, aR 465, aI i, w6, w7, w8] [] g M Q := by
  have hI0 := hI
  obtain ⟨hA, hld, hl01, q, hc, ⟨nx, sz, hH, hsz⟩, hS⟩ := hI0
  have hH0 := hH
  obtain ⟨⟨hn1, hn0⟩, ⟨hz2, hz0⟩, h10, hHj⟩ := hH0
  obtain ⟨hw0, ⟨bu, by_, hb1, hb13, hbu, hZ, hU⟩, he3, he4, he5, hId, tx, hT, hUt, htl, htr⟩ := hA
  have htz := hT.2.1
  have hS1 := HD_s hD
  have hS100 := HD_y hD
  have hS202 := HD_h hD
  have hS448 := HD_o hD
  have hS464 := HD_u hD
  have hS465 := HD_ud hD
  refine ok_aloadn (pc' := 3161) i0_3160 rfl rfl <| ok_aloadn (pc' := 3162) i0_3161 rfl rfl <| ok_cc i0_3162 rfl (cl_s o0 m13_354 na326 rfl rfl (bt rfl) (bt rfl) rfl) ln326 (pd326 (aR 100) (aR 464)) <| ok_aloadn (pc' := 1) i326_0 rfl rfl <| ok_iconst (pc' := 2) i326_1 rfl <| ok_aloadn (pc' := 3) i326_2 rfl rfl <| ok_cc i326_3 rfl (cl_v o326 m13_164 na152 rfl rfl (bt rfl) (bt rfl) rfl (by rw [ShYard_k0 hS100, o152])) ln152 (pd152 (aR 100)) <| ok_aloadn (pc' := 1) i152_0 rfl rfl <| ?_
  refine ok_getfr (r := 202) (pc' := 4) i152_1 o152 gr0_71 (ShYard_k0 hS100) (ShYard_r12 hS100) rfl <| ok_getfi (v := 0) (pc' := 7) i152_4 o152 gi0_343 (ShHist_k0 hS202) (hz2.trans (hsz hl)) rfl <| ok_kz0 (pc1 := 21) (pc2 := 10) i152_7 (by decide) rfl rfl <| ok_throw th152_10 (bt rfl) <| kt_h hn326 hf326_3_12 hr326_11 <| kt_v (pc' := 3165) rfl <| ?_
  refine ok_al hD (fun g hD => ?_)
  have hS448 := HD_o hD
  have hS1 := HD_s hD
  have hS464 := HD_u hD
  have hS465 := HD_ud hD
  refine ok_istore (pc' := 3167) (ls' := [aR 1, aR 100, aR 448, aR 464, aR 465, aI i, aI 1, w7, w8]) i0_3165 (bt rfl) rfl rfl <| ok_aloadn (pc' := 3168) i0_3167 rfl rfl <| ok_cc i0_3168 rfl (cl_v o0 m13_356 na276 rfl rfl (bt rfl) (bt rfl) rfl (by rw [ShModel_k0 hS448, o276])) ln276 (pd276 (aR 448)) <| ok_aloadn (pc' := 1) i276_0 rfl rfl <| ok_iconst (pc' := 2) i276_1 rfl <| ok_putfj (kk := 0) (pc' := 5) i276_2 o276 pi276_63 (ShModel_k0 hS448) rfl rfl <| ok_aloadn (pc' := 6) i276_5 rfl rfl <| ok_aloadn (pc' := 7) i276_6 rfl rfl <| ?_
  refine ok_getfi (v := 0) (pc' := 10) i276_7 o276 gi9_213 (ShModel_k0 hS448) (rd_ni (by decide) (h10.trans (hsz hl))) rfl <| ok_kz0 (pc1 := 17) (pc2 := 13) i276_10 (by decide) rfl rfl <| ok_iconst (pc' := 14) i276_13 rfl <| ok_goto (pc' := 18) i276_14 rfl <| ok_iconst (pc' := 19) i276_18 rfl <| ok_cc i276_19 rfl (cl_v o276 m9_70 na165 rfl rfl (bt rfl) (bt rfl) rfl (by rw [ShModel_k0 hS448, o165])) ln165 (pd165 (aR 448) (aI 1) (aI 1)) <| ok_aloadn (pc' := 1) i165_0 rfl rfl <| ok_getfi (v := 0) (pc' := 4) i165_1 o165 gi9_63 (ShModel_k0 hS448) rd_eq rfl <| ?_
  refine ok_kz0 (pc1 := 16) (pc2 := 7) i165_4 (by decide) rfl rfl <| ok_iloadn (pc' := 8) i165_7 rfl rfl <| ok_kz0 (pc1 := 16) (pc2 := 11) i165_8 (by decide) rfl rfl <| ok_aloadn (pc' := 12) i165_11 rfl rfl <| ok_iloadn (pc' := 13) i165_12 rfl rfl <| ok_putfj (kk := 0) (pc' := 16) i165_13 o165 pi165_63 (ShModel_k0 hS448) rfl rfl <| ok_aloadn (pc' := 17) i165_16 rfl rfl <| ok_getfi (v := 1) (pc' := 20) i165_17 o165 gi9_63 (ShModel_k0 hS448) rd_eq rfl <| ?_
  refine ok_kz0 (pc1 := 27) (pc2 := 23) i165_20 (by decide) rfl rfl <| ok_iconst (pc' := 24) i165_23 rfl <| ok_goto (pc' := 28) i165_24 rfl <| ok_iretz i165_28 rt165 (by decide) <| kt_v (pc' := 22) rfl <| ok_kz0 (pc1 := 27) (pc2 := 25) i276_22 (by decide) rfl rfl <| ok_iconst (pc' := 26) i276_25 rfl <| ok_ireti i276_26 rt276 <| ?_
  refine kt_v (pc' := 3171) rfl <| ok_istore (pc' := 3173) (ls' := [aR 1, aR 100, aR 448, aR 464, aR 465, aI i, aI 1, aI 0, w8]) i0_3171 (bt rfl) rfl rfl <| ok_aloadn (pc' := 3174) i0_3173 rfl rfl <| ok_cc i0_3174 rfl (cl_v o0 m13_188 na157 rfl rfl (bt rfl) (bt rfl) rfl (by rw [ShModel_k0 hS448, o157])) ln157 (pd157 (aR 448)) <| ok_aloadn (pc' := 1) i157_0 rfl rfl <| ok_getfi (v := 1) (pc' := 4) i157_1 o157 gi9_63 (ShModel_k0 hS448) rd_eq rfl <| ok_ireti i157_4 rt157 <| kt_v (pc' := 3177) rfl <| ?_
  refine ok_iload (pc' := 3179) i0_3177 rfl rfl <| ok_kc1 (pc1 := 3184) (pc2 := 3182) i0_3179 (by decide) rfl rfl <| ok_iload (pc' := 3186) i0_3184 rfl rfl <| ok_kz1 (pc1 := 3201) (pc2 := 3189) i0_3186 (by decide) rfl rfl <| ok_goto (pc' := 3329) i0_3201 rfl <| ?_
  exact K _ _ _ _ _ _ hD (by omega) (Inv_mono (Inv_same hI (Same.thr (Same.thr Same.rfl))) (by omega))
theorem c54_0 {L n : Nat} {g : AG} {M : AM} {xs : Nat → Int32} {b i : Int} {w6 w7 w8 : AV} {Q : AO → AG → AM → Prop} (hD : HD L n g) (hI : Inv xs b M) (hi : 0 ≤ i ∧ i + 6 ≤ L) (hb : 0 ≤ b ∧ b ≤ 900000) (hl : M 100 6 = 0) (K : KK L n i b xs Q) :
    Ok 10 0 3204 [aR 1, aR 100, aR 448, aR 464, aR 465, aI i, w6, w7, w8] [] g M Q := by
  have hI0 := hI
  obtain ⟨hA, hld, hl01, q, hc, ⟨nx, sz, hH, hsz⟩, hS⟩ := hI0
  have hH0 := hH
  obtain ⟨⟨hn1, hn0⟩, ⟨hz2, hz0⟩, h10, hHj⟩ := hH0
  obtain ⟨hw0, ⟨bu, by_, hb1, hb13, hbu, hZ, hU⟩, he3, he4, he5, hId, tx, hT, hUt, htl, htr⟩ := hA
  have htz := hT.2.1
  have hS100 := HD_y hD
  have hS202 := HD_h hD
  have hS448 := HD_o hD
  refine ok_aloadn (pc' := 3205) i0_3204 rfl rfl <| ok_cc i0_3205 rfl (cl_v o0 m13_357 na95 rfl rfl (bt rfl) (bt rfl) rfl (by rw [ShYard_k0 hS100, o95])) ln95 (pd95 (aR 100)) <| ok_aloadn (pc' := 1) i95_0 rfl rfl <| ok_getfr (r := 202) (pc' := 4) i95_1 o95 gr0_71 (ShYard_k0 hS100) (ShYard_r12 hS100) rfl <| ok_getfi (v := 0) (pc' := 7) i95_4 o95 gi0_343 (ShHist_k0 hS202) (hz2.trans (hsz hl)) rfl <| ok_ireti i95_7 rt95 <| kt_v (pc' := 3208) rfl <| ok_aloadn (pc' := 3209) i0_3208 rfl rfl <| ?_
  refine ok_cc i0_3209 rfl (cl_v o0 m13_360 na259 rfl rfl (bt rfl) (bt rfl) rfl (by rw [ShModel_k0 hS448, o259])) ln259 (pd259 (aR 448)) <| ok_aloadn (pc' := 1) i259_0 rfl rfl <| ok_aloadn (pc' := 2) i259_1 rfl rfl <| ok_getfi (v := 0) (pc' := 5) i259_2 o259 gi9_213 (ShModel_k0 hS448) (h10.trans (hsz hl)) rfl <| ok_cc i259_5 rfl (cl_v o259 m9_341 na258 rfl rfl (bt rfl) (bt rfl) rfl (by rw [ShModel_k0 hS448, o258])) ln258 (pd258 (aR 448) (aI 0)) <| ok_aloadn (pc' := 1) i258_0 rfl rfl <| ok_iconst (pc' := 2) i258_1 rfl <| ok_putfj (kk := 0) (pc' := 5) i258_2 o258 pi258_63 (ShModel_k0 hS448) rfl rfl <| ?_
  refine ok_aloadn (pc' := 6) i258_5 rfl rfl <| ok_getfi (v := 0) (pc' := 9) i258_6 o258 gi9_66 (ShModel_k0 hS448) (rd_ni (by decide) (hld.trans hl)) rfl <| ok_kz1 (pc1 := 16) (pc2 := 12) i258_9 (by decide) rfl rfl <| ok_iconst (pc' := 17) i258_16 rfl <| ok_ireti i258_17 rt258 <| kt_v (pc' := 8) rfl <| ok_ireti i259_8 rt259 <| kt_v (pc' := 3212) rfl <| ?_
  refine ok_kc1 (pc1 := 3329) (pc2 := 3215) i0_3212 (by decide) rfl rfl <| ?_
  exact K _ _ _ _ _ _ hD (by omega) (Inv_mono (Inv_same hI (Same.thr Same.rfl)) (by omega))
theorem c54_1 {L n : Nat} {g : AG} {M : AM} {xs : Nat → Int32} {b i : Int} {w6 w7 w8 : AV} {Q : AO → AG → AM → Prop} (hD : HD L n g) (hI : Inv xs b M) (hi : 0 ≤ i ∧ i + 6 ≤ L) (hb : 0 ≤ b ∧ b ≤ 900000) (hl : M 100 6 = 1) (K : KK L n i b xs Q) :
    Ok 10 0 3204 [aR 1, aR 100, aR 448, aR 464, aR 465, aI i, w6, w7, w8] [] g M Q := by
  have hI0 := hI
  obtain ⟨hA, hld, hl01, q, hc, ⟨nx, sz, hH, hsz⟩, hS⟩ := hI0
  have hH0 := hH
  obtain ⟨⟨hn1, hn0⟩, ⟨hz2, hz0⟩, h10, hHj⟩ := hH0
  obtain ⟨hw0, ⟨bu, by_, hb1, hb13, hbu, hZ, hU⟩, he3, he4, he5, hId, tx, hT, hUt, htl, htr⟩ := hA
  have htz := hT.2.1
  obtain ⟨s, hP, hRB, hO, hV, hQ, h40⟩ := hc hl
  have ys3 := V_3 hV
  have ys4 := V_4 hV
  have yq0 := Q_0 hQ
  have yq1 := Q_1 hQ
  have hS100 := HD_y hD
  have hS202 := HD_h hD
  have hS448 := HD_o hD
  refine ok_aloadn (pc' := 3205) i0_3204 rfl rfl <| ok_cc i0_3205 rfl (cl_v o0 m13_357 na95 rfl rfl (bt rfl) (bt rfl) rfl (by rw [ShYard_k0 hS100, o95])) ln95 (pd95 (aR 100)) <| ok_aloadn (pc' := 1) i95_0 rfl rfl <| ok_getfr (r := 202) (pc' := 4) i95_1 o95 gr0_71 (ShYard_k0 hS100) (ShYard_r12 hS100) rfl <| ok_getfi (v := sz) (pc' := 7) i95_4 o95 gi0_343 (ShHist_k0 hS202) hz2 rfl <| ok_ireti i95_7 rt95 <| kt_v (pc' := 3208) rfl <| ok_aloadn (pc' := 3209) i0_3208 rfl rfl <| ?_
  refine ok_cc i0_3209 rfl (cl_v o0 m13_360 na259 rfl rfl (bt rfl) (bt rfl) rfl (by rw [ShModel_k0 hS448, o259])) ln259 (pd259 (aR 448)) <| ok_aloadn (pc' := 1) i259_0 rfl rfl <| ok_aloadn (pc' := 2) i259_1 rfl rfl <| ok_getfi (v := sz) (pc' := 5) i259_2 o259 gi9_213 (ShModel_k0 hS448) h10 rfl <| ok_cc i259_5 rfl (cl_v o259 m9_341 na258 rfl rfl (bt rfl) (bt rfl) rfl (by rw [ShModel_k0 hS448, o258])) ln258 (pd258 (aR 448) (aI sz)) <| ok_aloadn (pc' := 1) i258_0 rfl rfl <| ok_iconst (pc' := 2) i258_1 rfl <| ok_putfj (kk := 0) (pc' := 5) i258_2 o258 pi258_63 (ShModel_k0 hS448) rfl rfl <| ?_
  refine ok_aloadn (pc' := 6) i258_5 rfl rfl <| ok_getfi (v := 1) (pc' := 9) i258_6 o258 gi9_66 (ShModel_k0 hS448) (rd_ni (by decide) (hld.trans hl)) rfl <| ok_kz0 (pc1 := 16) (pc2 := 12) i258_9 (by decide) rfl rfl <| ok_iloadn (pc' := 13) i258_12 rfl rfl <| ok_goto (pc' := 17) i258_13 rfl <| ok_ireti i258_17 rt258 <| kt_v (pc' := 8) rfl <| ok_ireti i259_8 rt259 <| ?_
  refine kt_v (pc' := 3212) rfl <| ?_
  refine ok_ceq (pc1 := 3329) (pc2 := 3215) i0_3212 (by omega) rfl rfl (fun h501 => ?_) (fun h9 => by exfalso; omega)
  exact K _ _ _ _ _ _ hD (by omega) (Inv_mono (Inv_same hI (Same.thr Same.rfl)) (by omega))
theorem c43_0 {L n : Nat} {g : AG} {M : AM} {xs : Nat → Int32} {b i : Int} {w6 w7 w8 : AV} {Q : AO → AG → AM → Prop} (hD : HD L n g) (hI : Inv xs b M) (hi : 0 ≤ i ∧ i + 6 ≤ L) (hb : 0 ≤ b ∧ b ≤ 900000) (hl : M 100 6 = 0) (K : KK L n i b xs Q) :
    Ok 10 0 2540 [aR 1, aR 100, aR 448, aR 464, aR 465, aI i, w6, w7, w8] [] g M Q := by
  have hI0 := hI
  obtain ⟨hA, hld, hl01, q, hc, ⟨nx, sz, hH, hsz⟩, hS⟩ := hI0
  have hH0 := hH
  obtain ⟨⟨hn1, hn0⟩, ⟨hz2, hz0⟩, h10, hHj⟩ := hH0
  obtain ⟨hw0, ⟨bu, by_, hb1, hb13, hbu, hZ, hU⟩, he3, he4, he5, hId, tx, hT, hUt, htl, htr⟩ := hA
  have htz := hT.2.1
  obtain ⟨v1, hv1⟩ : ∃ u9 : Int, M 1 (i + 1) = u9 := ⟨_, rfl⟩
  have hr1 : -2147483648 ≤ v1 ∧ v1 < 2147483648 := hv1 ▸ scr_rg hw0 (i + 1)
  have hS1 := HD_s hD
  have hS100 := HD_y hD
  have hS446 := HD_x hD
  have hS448 := HD_o hD
  have hS464 := HD_u hD
  have hS465 := HD_ud hD
  refine ok_aloadn (pc' := 2541) i0_2540 rfl rfl <| ok_aloadn (pc' := 2542) i0_2541 rfl rfl <| ok_iload (pc' := 2544) i0_2542 rfl rfl <| ok_iconst (pc' := 2545) i0_2544 rfl <| ok_iadd (v := (i + 1)) (pc' := 2546) i0_2545 rfl rfl <| ok_iaload (v := v1) (pc' := 2547) i0_2546 (ShScr_k0 hS1) (by decide) (ShScr_l0 hS1) (by omega) hv1 rfl <| ok_aloadn (pc' := 2548) i0_2547 rfl rfl <| ok_cc i0_2548 rfl (cl_s o0 m13_323 na316 rfl rfl (bt rfl) (bt rfl) rfl) ln316 (pd316 (aR 100) (aI v1) (aR 464)) <| ?_
  refine ok_aloadn (pc' := 1) i316_0 rfl rfl <| ok_iconst (pc' := 2) i316_1 rfl <| ok_aloadn (pc' := 3) i316_2 rfl rfl <| ok_iloadn (pc' := 4) i316_3 rfl rfl <| ok_cc i316_4 rfl (cl_v o316 m13_133 na142 rfl rfl (bt rfl) (bt rfl) rfl (by rw [ShYard_k0 hS100, o142])) ln142 (pd142 (aR 100) (aI v1)) <| ok_iloadn (pc' := 1) i142_0 rfl rfl <| ?_
  refine ok_zlt (pc1 := 15) (pc2 := 4) i142_1 (by omega) rfl rfl (fun h501 => ?_) (fun h501 => ?_)
  · refine ok_throw th142_15 (bt rfl) <| kt_h hn316 hf316_4_10 hr316_12 <| kt_v (pc' := 2551) rfl <| ?_
    refine ok_al hD (fun g hD => ?_)
    have hS448 := HD_o hD
    have hS1 := HD_s hD
    have hS464 := HD_u hD
    have hS465 := HD_ud hD
    refine ok_istore (pc' := 2553) (ls' := [aR 1, aR 100, aR 448, aR 464, aR 465, aI i, aI 1, w7, w8]) i0_2551 (bt rfl) rfl rfl <| ok_aloadn (pc' := 2554) i0_2553 rfl rfl <| ok_aloadn (pc' := 2555) i0_2554 rfl rfl <| ok_iload (pc' := 2557) i0_2555 rfl rfl <| ok_iconst (pc' := 2558) i0_2557 rfl <| ok_iadd (v := (i + 1)) (pc' := 2559) i0_2558 rfl rfl <| ok_iaload (v := v1) (pc' := 2560) i0_2559 (ShScr_k0 hS1) (by decide) (ShScr_l0 hS1) (by omega) hv1 rfl <| ok_cc i0_2560 rfl (cl_v o0 m13_325 na265 rfl rfl (bt rfl) (bt rfl) rfl (by rw [ShModel_k0 hS448, o265])) ln265 (pd265 (aR 448) (aI v1)) <| ?_
    refine ok_aloadn (pc' := 1) i265_0 rfl rfl <| ok_iconst (pc' := 2) i265_1 rfl <| ok_putfj (kk := 0) (pc' := 5) i265_2 o265 pi265_63 (ShModel_k0 hS448) rfl rfl <| ok_aloadn (pc' := 6) i265_5 rfl rfl <| ok_iloadn (pc' := 7) i265_6 rfl rfl <| ok_iconst (pc' := 8) i265_7 rfl <| ok_aloadn (pc' := 9) i265_8 rfl rfl <| ok_getfi (v := tx.1) (pc' := 12) i265_9 o265 gi9_344 (ShModel_k0 hS448) (rd_ni (by decide) hUt.1) rfl <| ?_
    refine ok_iconst (pc' := 13) i265_12 rfl <| ok_isub (v := (tx.1 - 1)) (pc' := 14) i265_13 rfl rfl <| ok_cc i265_14 rfl (cl_s o265 m9_140 na164 rfl rfl (bt rfl) (bt rfl) rfl) ln164 (pd164 (aI v1) (aI 0) (aI (tx.1 - 1))) <| ok_iloadn (pc' := 1) i164_0 rfl rfl <| ok_iloadn (pc' := 2) i164_1 rfl rfl <| ?_
    refine ok_clt (pc1 := 14) (pc2 := 5) i164_2 (by omega) rfl rfl (fun h502 => ?_) (fun h9 => by exfalso; omega)
    refine ok_iconst (pc' := 15) i164_14 rfl <| ok_iretz i164_15 rt164 (by decide) <| kt_v (pc' := 17) rfl <| ok_kz0 (pc1 := 24) (pc2 := 20) i265_17 (by decide) rfl rfl <| ok_iconst (pc' := 21) i265_20 rfl <| ok_goto (pc' := 25) i265_21 rfl <| ok_iconst (pc' := 26) i265_25 rfl <| ok_cc i265_26 rfl (cl_v o265 m9_70 na165 rfl rfl (bt rfl) (bt rfl) rfl (by rw [ShModel_k0 hS448, o165])) ln165 (pd165 (aR 448) (aI 1) (aI 1)) <| ?_
    refine ok_aloadn (pc' := 1) i165_0 rfl rfl <| ok_getfi (v := 0) (pc' := 4) i165_1 o165 gi9_63 (ShModel_k0 hS448) rd_eq rfl <| ok_kz0 (pc1 := 16) (pc2 := 7) i165_4 (by decide) rfl rfl <| ok_iloadn (pc' := 8) i165_7 rfl rfl <| ok_kz0 (pc1 := 16) (pc2 := 11) i165_8 (by decide) rfl rfl <| ok_aloadn (pc' := 12) i165_11 rfl rfl <| ok_iloadn (pc' := 13) i165_12 rfl rfl <| ok_putfj (kk := 0) (pc' := 16) i165_13 o165 pi165_63 (ShModel_k0 hS448) rfl rfl <| ?_
    refine ok_aloadn (pc' := 17) i165_16 rfl rfl <| ok_getfi (v := 1) (pc' := 20) i165_17 o165 gi9_63 (ShModel_k0 hS448) rd_eq rfl <| ok_kz0 (pc1 := 27) (pc2 := 23) i165_20 (by decide) rfl rfl <| ok_iconst (pc' := 24) i165_23 rfl <| ok_goto (pc' := 28) i165_24 rfl <| ok_iretz i165_28 rt165 (by decide) <| kt_v (pc' := 29) rfl <| ok_kz0 (pc1 := 36) (pc2 := 32) i265_29 (by decide) rfl rfl <| ?_
    refine ok_iconst (pc' := 33) i265_32 rfl <| ok_goto (pc' := 42) i265_33 rfl <| ok_ireti i265_42 rt265 <| kt_v (pc' := 2563) rfl <| ok_istore (pc' := 2565) (ls' := [aR 1, aR 100, aR 448, aR 464, aR 465, aI i, aI 1, aI 0, w8]) i0_2563 (bt rfl) rfl rfl <| ok_aloadn (pc' := 2566) i0_2565 rfl rfl <| ok_cc i0_2566 rfl (cl_v o0 m13_188 na157 rfl rfl (bt rfl) (bt rfl) rfl (by rw [ShModel_k0 hS448, o157])) ln157 (pd157 (aR 448)) <| ok_aloadn (pc' := 1) i157_0 rfl rfl <| ?_
    refine ok_getfi (v := 1) (pc' := 4) i157_1 o157 gi9_63 (ShModel_k0 hS448) rd_eq rfl <| ok_ireti i157_4 rt157 <| kt_v (pc' := 2569) rfl <| ok_iload (pc' := 2571) i0_2569 rfl rfl <| ok_kc1 (pc1 := 2576) (pc2 := 2574) i0_2571 (by decide) rfl rfl <| ok_iload (pc' := 2578) i0_2576 rfl rfl <| ok_kz1 (pc1 := 2593) (pc2 := 2581) i0_2578 (by decide) rfl rfl <| ok_goto (pc' := 3329) i0_2593 rfl <| ?_
    exact K _ _ _ _ _ _ hD (by omega) (Inv_mono (Inv_same hI (Same.thr (Same.thr Same.rfl))) (by omega))
  · refine ok_iloadn (pc' := 5) i142_4 rfl rfl <| ok_aloadn (pc' := 6) i142_5 rfl rfl <| ok_getfr (r := 446) (pc' := 9) i142_6 o142 gr0_86 (ShYard_k0 hS100) (ShYard_r15 hS100) rfl <| ok_getfi (v := tx.1) (pc' := 12) i142_9 o142 gi0_280 (ShText_k0 hS446) hT.1 rfl <| ?_
    refine ok_clt (pc1 := 26) (pc2 := 15) i142_12 (by omega) rfl rfl (fun h503 => ?_) (fun h503 => ?_)
    · refine ok_aloadn (pc' := 27) i142_26 rfl rfl <| ok_getfr (r := 446) (pc' := 30) i142_27 o142 gr0_86 (ShYard_k0 hS100) (ShYard_r15 hS100) rfl <| ok_getfr (r := (446 + 1)) (pc' := 33) i142_30 o142 gr0_300 (ShText_k0 hS446) (ShText_r0 hS446) rfl <| ok_iloadn (pc' := 34) i142_33 rfl rfl <| ok_baload (v := (tx.2 v1)) (pc' := 35) i142_34 (ShText_k1 hS446) (by decide) (ShText_l1 hS446) (by omega) (hT.2.2 v1 (by omega) (by omega)) rfl <| ok_ireti i142_35 rt142 <| kt_v (pc' := 7) rfl <| ok_i2l (v := (wr (tx.2 v1))) (pc' := 8) i316_7 rfl rfl <| ?_
      refine ok_lastore (pc' := 9) i316_8 (ShOut_k0 hS464) (ShOut_l0 hS464) (by decide) rfl <| ok_goto (pc' := 15) i316_9 rfl <| ok_iconst (pc' := 16) i316_15 rfl <| ok_ireti i316_16 rt316 <| kt_v (pc' := 2551) rfl <| ok_istore (pc' := 2553) (ls' := [aR 1, aR 100, aR 448, aR 464, aR 465, aI i, aI 0, w7, w8]) i0_2551 (bt rfl) rfl rfl <| ok_aloadn (pc' := 2554) i0_2553 rfl rfl <| ok_aloadn (pc' := 2555) i0_2554 rfl rfl <| ?_
      refine ok_iload (pc' := 2557) i0_2555 rfl rfl <| ok_iconst (pc' := 2558) i0_2557 rfl <| ok_iadd (v := (i + 1)) (pc' := 2559) i0_2558 rfl rfl <| ok_iaload (v := v1) (pc' := 2560) i0_2559 (ShScr_k0 hS1) (by decide) (ShScr_l0 hS1) (by omega) (rd_na (by omega) hv1) rfl <| ok_cc i0_2560 rfl (cl_v o0 m13_325 na265 rfl rfl (bt rfl) (bt rfl) rfl (by rw [ShModel_k0 hS448, o265])) ln265 (pd265 (aR 448) (aI v1)) <| ok_aloadn (pc' := 1) i265_0 rfl rfl <| ok_iconst (pc' := 2) i265_1 rfl <| ok_putfj (kk := 0) (pc' := 5) i265_2 o265 pi265_63 (ShModel_k0 hS448) rfl rfl <| ?_
      refine ok_aloadn (pc' := 6) i265_5 rfl rfl <| ok_iloadn (pc' := 7) i265_6 rfl rfl <| ok_iconst (pc' := 8) i265_7 rfl <| ok_aloadn (pc' := 9) i265_8 rfl rfl <| ok_getfi (v := tx.1) (pc' := 12) i265_9 o265 gi9_344 (ShModel_k0 hS448) (rd_ni (by decide) (rd_na (by omega) hUt.1)) rfl <| ok_iconst (pc' := 13) i265_12 rfl <| ok_isub (v := (tx.1 - 1)) (pc' := 14) i265_13 rfl rfl <| ok_cc i265_14 rfl (cl_s o265 m9_140 na164 rfl rfl (bt rfl) (bt rfl) rfl) ln164 (pd164 (aI v1) (aI 0) (aI (tx.1 - 1))) <| ?_
      refine ok_iloadn (pc' := 1) i164_0 rfl rfl <| ok_iloadn (pc' := 2) i164_1 rfl rfl <| ?_
      refine ok_clt (pc1 := 14) (pc2 := 5) i164_2 (by omega) rfl rfl (fun h9 => by exfalso; omega) (fun h504 => ?_)
      refine ok_iloadn (pc' := 6) i164_5 rfl rfl <| ok_iloadn (pc' := 7) i164_6 rfl rfl <| ?_
      refine ok_cgt (pc1 := 14) (pc2 := 10) i164_7 (by omega) rfl rfl (fun h9 => by exfalso; omega) (fun h505 => ?_)
      refine ok_iconst (pc' := 11) i164_10 rfl <| ok_goto (pc' := 15) i164_11 rfl <| ok_iretz i164_15 rt164 (by decide) <| kt_v (pc' := 17) rfl <| ok_kz1 (pc1 := 24) (pc2 := 20) i265_17 (by decide) rfl rfl <| ok_iconst (pc' := 25) i265_24 rfl <| ok_iconst (pc' := 26) i265_25 rfl <| ok_cc i265_26 rfl (cl_v o265 m9_70 na165 rfl rfl (bt rfl) (bt rfl) rfl (by rw [ShModel_k0 hS448, o165])) ln165 (pd165 (aR 448) (aI 0) (aI 1)) <| ?_
      refine ok_aloadn (pc' := 1) i165_0 rfl rfl <| ok_getfi (v := 0) (pc' := 4) i165_1 o165 gi9_63 (ShModel_k0 hS448) rd_eq rfl <| ok_kz0 (pc1 := 16) (pc2 := 7) i165_4 (by decide) rfl rfl <| ok_iloadn (pc' := 8) i165_7 rfl rfl <| ok_kz1 (pc1 := 16) (pc2 := 11) i165_8 (by decide) rfl rfl <| ok_aloadn (pc' := 17) i165_16 rfl rfl <| ok_getfi (v := 0) (pc' := 20) i165_17 o165 gi9_63 (ShModel_k0 hS448) rd_eq rfl <| ok_kz1 (pc1 := 27) (pc2 := 23) i165_20 (by decide) rfl rfl <| ?_
      refine ok_iconst (pc' := 28) i165_27 rfl <| ok_iretz i165_28 rt165 (by decide) <| kt_v (pc' := 29) rfl <| ok_kz1 (pc1 := 36) (pc2 := 32) i265_29 (by decide) rfl rfl <| ok_aloadn (pc' := 37) i265_36 rfl rfl <| ok_getfr (r := (448 + 15)) (pc' := 40) i265_37 o265 gr9_60 (ShModel_k0 hS448) (ShModel_r34 hS448) rfl <| ok_iloadn (pc' := 41) i265_40 rfl rfl <| ok_iaload (v := (tx.2 v1)) (pc' := 42) i265_41 (ShModel_k15 hS448) (by decide) (ShModel_l15 hS448) (by omega) (rd_na (by omega) (rd_na (by omega) (hUt.2.2 v1 (by omega) (by omega)))) rfl <| ?_
      refine ok_ireti i265_42 rt265 <| kt_v (pc' := 2563) rfl <| ok_istore (pc' := 2565) (ls' := [aR 1, aR 100, aR 448, aR 464, aR 465, aI i, aI 0, aI (tx.2 v1), w8]) i0_2563 (bt rfl) rfl rfl <| ok_aloadn (pc' := 2566) i0_2565 rfl rfl <| ok_cc i0_2566 rfl (cl_v o0 m13_188 na157 rfl rfl (bt rfl) (bt rfl) rfl (by rw [ShModel_k0 hS448, o157])) ln157 (pd157 (aR 448)) <| ok_aloadn (pc' := 1) i157_0 rfl rfl <| ok_getfi (v := 0) (pc' := 4) i157_1 o157 gi9_63 (ShModel_k0 hS448) rd_eq rfl <| ok_ireti i157_4 rt157 <| ?_
      refine kt_v (pc' := 2569) rfl <| ok_iload (pc' := 2571) i0_2569 rfl rfl <| ok_kc1 (pc1 := 2576) (pc2 := 2574) i0_2571 (by decide) rfl rfl <| ok_iload (pc' := 2578) i0_2576 rfl rfl <| ok_kz0 (pc1 := 2593) (pc2 := 2581) i0_2578 (by decide) rfl rfl <| ok_aloadn (pc' := 2582) i0_2581 rfl rfl <| ok_iconst (pc' := 2583) i0_2582 rfl <| ok_laload (v := (wr (tx.2 v1))) (pc' := 2584) i0_2583 (ShOut_k0 hS464) (ShOut_l0 hS464) (by decide) (rd_na (by omega) rd_eq) rfl <| ?_
      refine ok_iload (pc' := 2586) i0_2584 rfl rfl <| ok_i2l (v := (wr (tx.2 v1))) (pc' := 2587) i0_2586 rfl rfl <| ok_lcmp0 (pc' := 2588) i0_2587 rfl <| ok_kz1 (pc1 := 2593) (pc2 := 2591) i0_2588 (by decide) rfl rfl <| ok_goto (pc' := 3329) i0_2593 rfl <| ?_
      exact K _ _ _ _ _ _ hD (by omega) (Inv_mono (Inv_same hI (Same.thr (Same.out Same.rfl))) (by omega))
    · refine ok_throw th142_15 (bt rfl) <| kt_h hn316 hf316_4_10 hr316_12 <| kt_v (pc' := 2551) rfl <| ?_
      refine ok_al hD (fun g hD => ?_)
      have hS448 := HD_o hD
      have hS1 := HD_s hD
      have hS464 := HD_u hD
      have hS465 := HD_ud hD
      refine ok_istore (pc' := 2553) (ls' := [aR 1, aR 100, aR 448, aR 464, aR 465, aI i, aI 1, w7, w8]) i0_2551 (bt rfl) rfl rfl <| ok_aloadn (pc' := 2554) i0_2553 rfl rfl <| ok_aloadn (pc' := 2555) i0_2554 rfl rfl <| ok_iload (pc' := 2557) i0_2555 rfl rfl <| ok_iconst (pc' := 2558) i0_2557 rfl <| ok_iadd (v := (i + 1)) (pc' := 2559) i0_2558 rfl rfl <| ok_iaload (v := v1) (pc' := 2560) i0_2559 (ShScr_k0 hS1) (by decide) (ShScr_l0 hS1) (by omega) hv1 rfl <| ok_cc i0_2560 rfl (cl_v o0 m13_325 na265 rfl rfl (bt rfl) (bt rfl) rfl (by rw [ShModel_k0 hS448, o265])) ln265 (pd265 (aR 448) (aI v1)) <| ?_
      refine ok_aloadn (pc' := 1) i265_0 rfl rfl <| ok_iconst (pc' := 2) i265_1 rfl <| ok_putfj (kk := 0) (pc' := 5) i265_2 o265 pi265_63 (ShModel_k0 hS448) rfl rfl <| ok_aloadn (pc' := 6) i265_5 rfl rfl <| ok_iloadn (pc' := 7) i265_6 rfl rfl <| ok_iconst (pc' := 8) i265_7 rfl <| ok_aloadn (pc' := 9) i265_8 rfl rfl <| ok_getfi (v := tx.1) (pc' := 12) i265_9 o265 gi9_344 (ShModel_k0 hS448) (rd_ni (by decide) hUt.1) rfl <| ?_
      refine ok_iconst (pc' := 13) i265_12 rfl <| ok_isub (v := (tx.1 - 1)) (pc' := 14) i265_13 rfl rfl <| ok_cc i265_14 rfl (cl_s o265 m9_140 na164 rfl rfl (bt rfl) (bt rfl) rfl) ln164 (pd164 (aI v1) (aI 0) (aI (tx.1 - 1))) <| ok_iloadn (pc' := 1) i164_0 rfl rfl <| ok_iloadn (pc' := 2) i164_1 rfl rfl <| ?_
      refine ok_clt (pc1 := 14) (pc2 := 5) i164_2 (by omega) rfl rfl (fun h9 => by exfalso; omega) (fun h506 => ?_)
      refine ok_iloadn (pc' := 6) i164_5 rfl rfl <| ok_iloadn (pc' := 7) i164_6 rfl rfl <| ?_
      refine ok_cgt (pc1 := 14) (pc2 := 10) i164_7 (by omega) rfl rfl (fun h507 => ?_) (fun h9 => by exfalso; omega)
      refine ok_iconst (pc' := 15) i164_14 rfl <| ok_iretz i164_15 rt164 (by decide) <| kt_v (pc' := 17) rfl <| ok_kz0 (pc1 := 24) (pc2 := 20) i265_17 (by decide) rfl rfl <| ok_iconst (pc' := 21) i265_20 rfl <| ok_goto (pc' := 25) i265_21 rfl <| ok_iconst (pc' := 26) i265_25 rfl <| ok_cc i265_26 rfl (cl_v o265 m9_70 na165 rfl rfl (bt rfl) (bt rfl) rfl (by rw [ShModel_k0 hS448, o165])) ln165 (pd165 (aR 448) (aI 1) (aI 1)) <| ?_
      refine ok_aloadn (pc' := 1) i165_0 rfl rfl <| ok_getfi (v := 0) (pc' := 4) i165_1 o165 gi9_63 (ShModel_k0 hS448) rd_eq rfl <| ok_kz0 (pc1 := 16) (pc2 := 7) i165_4 (by decide) rfl rfl <| ok_iloadn (pc' := 8) i165_7 rfl rfl <| ok_kz0 (pc1 := 16) (pc2 := 11) i165_8 (by decide) rfl rfl <| ok_aloadn (pc' := 12) i165_11 rfl rfl <| ok_iloadn (pc' := 13) i165_12 rfl rfl <| ok_putfj (kk := 0) (pc' := 16) i165_13 o165 pi165_63 (ShModel_k0 hS448) rfl rfl <| ?_
      refine ok_aloadn (pc' := 17) i165_16 rfl rfl <| ok_getfi (v := 1) (pc' := 20) i165_17 o165 gi9_63 (ShModel_k0 hS448) rd_eq rfl <| ok_kz0 (pc1 := 27) (pc2 := 23) i165_20 (by decide) rfl rfl <| ok_iconst (pc' := 24) i165_23 rfl <| ok_goto (pc' := 28) i165_24 rfl <| ok_iretz i165_28 rt165 (by decide) <| kt_v (pc' := 29) rfl <| ok_kz0 (pc1 := 36) (pc2 := 32) i265_29 (by decide) rfl rfl <| ?_
      refine ok_iconst (pc' := 33) i265_32 rfl <| ok_goto (pc' := 42) i265_33 rfl <| ok_ireti i265_42 rt265 <| kt_v (pc' := 2563) rfl <| ok_istore (pc' := 2565) (ls' := [aR 1, aR 100, aR 448, aR 464, aR 465, aI i, aI 1, aI 0, w8]) i0_2563 (bt rfl) rfl rfl <| ok_aloadn (pc' := 2566) i0_2565 rfl rfl <| ok_cc i0_2566 rfl (cl_v o0 m13_188 na157 rfl rfl (bt rfl) (bt rfl) rfl (by rw [ShModel_k0 hS448, o157])) ln157 (pd157 (aR 448)) <| ok_aloadn (pc' := 1) i157_0 rfl rfl <| ?_
      refine ok_getfi (v := 1) (pc' := 4) i157_1 o157 gi9_63 (ShModel_k0 hS448) rd_eq rfl <| ok_ireti i157_4 rt157 <| kt_v (pc' := 2569) rfl <| ok_iload (pc' := 2571) i0_2569 rfl rfl <| ok_kc1 (pc1 := 2576) (pc2 := 2574) i0_2571 (by decide) rfl rfl <| ok_iload (pc' := 2578) i0_2576 rfl rfl <| ok_kz1 (pc1 := 2593) (pc2 := 2581) i0_2578 (by decide) rfl rfl <| ok_goto (pc' := 3329) i0_2593 rfl <| ?_
      exact K _ _ _ _ _ _ hD (by omega) (Inv_mono (Inv_same hI (Same.thr (Same.thr Same.rfl))) (by omega))
theorem c43_1 {L n : Nat} {g : AG} {M : AM} {xs : Nat → Int32} {b i : Int} {w6 w7 w8 : AV} {Q : AO → AG → AM → Prop} (hD : HD L n g) (hI : Inv xs b M) (hi : 0 ≤ i ∧ i + 6 ≤ L) (hb : 0 ≤ b ∧ b ≤ 900000) (hl : M 100 6 = 1) (K : KK L n i b xs Q) :
    Ok 10 0 2540 [aR 1, aR 100, aR 448, aR 464, aR 465, aI i, w6, w7, w8] [] g M Q := by
  have hI0 := hI
  obtain ⟨hA, hld, hl01, q, hc, ⟨nx, sz, hH, hsz⟩, hS⟩ := hI0
  have hH0 := hH
  obtain ⟨⟨hn1, hn0⟩, ⟨hz2, hz0⟩, h10, hHj⟩ := hH0
  obtain ⟨hw0, ⟨bu, by_, hb1, hb13, hbu, hZ, hU⟩, he3, he4, he5, hId, tx, hT, hUt, htl, htr⟩ := hA
  have htz := hT.2.1
  obtain ⟨s, hP, hRB, hO, hV, hQ, h40⟩ := hc hl
  have ys3 := V_3 hV
  have ys4 := V_4 hV
  have yq0 := Q_0 hQ
  have yq1 := Q_1 hQ
  obtain ⟨v1, hv1⟩ : ∃ u9 : Int, M 1 (i + 1) = u9 := ⟨_, rfl⟩
  have hr1 : -2147483648 ≤ v1 ∧ v1 < 2147483648 := hv1 ▸ scr_rg hw0 (i + 1)
  have hS1 := HD_s hD
  have hS100 := HD_y hD
  have hS446 := HD_x hD
  have hS448 := HD_o hD
  have hS464 := HD_u hD
  have hS465 := HD_ud hD
  refine ok_aloadn (pc' := 2541) i0_2540 rfl rfl <| ok_aloadn (pc' := 2542) i0_2541 rfl rfl <| ok_iload (pc' := 2544) i0_2542 rfl rfl <| ok_iconst (pc' := 2545) i0_2544 rfl <| ok_iadd (v := (i + 1)) (pc' := 2546) i0_2545 rfl rfl <| ok_iaload (v := v1) (pc' := 2547) i0_2546 (ShScr_k0 hS1) (by decide) (ShScr_l0 hS1) (by omega) hv1 rfl <| ok_aloadn (pc' := 2548) i0_2547 rfl rfl <| ok_cc i0_2548 rfl (cl_s o0 m13_323 na316 rfl rfl (bt rfl) (bt rfl) rfl) ln316 (pd316 (aR 100) (aI v1) (aR 464)) <| ?_
  refine ok_aloadn (pc' := 1) i316_0 rfl rfl <| ok_iconst (pc' := 2) i316_1 rfl <| ok_aloadn (pc' := 3) i316_2 rfl rfl <| ok_iloadn (pc' := 4) i316_3 rfl rfl <| ok_cc i316_4 rfl (cl_v o316 m13_133 na142 rfl rfl (bt rfl) (bt rfl) rfl (by rw [ShYard_k0 hS100, o142])) ln142 (pd142 (aR 100) (aI v1)) <| ok_iloadn (pc' := 1) i142_0 rfl rfl <| ?_
  refine ok_zlt (pc1 := 15) (pc2 := 4) i142_1 (by omega) rfl rfl (fun h501 => ?_) (fun h501 => ?_)
  · refine ok_throw th142_15 (bt rfl) <| kt_h hn316 hf316_4_10 hr316_12 <| kt_v (pc' := 2551) rfl <| ?_
    refine ok_al hD (fun g hD => ?_)
    have hS448 := HD_o hD
    have hS1 := HD_s hD
    have hS464 := HD_u hD
    have hS465 := HD_ud hD
    refine ok_istore (pc' := 2553) (ls' := [aR 1, aR 100, aR 448, aR 464, aR 465, aI i, aI 1, w7, w8]) i0_2551 (bt rfl) rfl rfl <| ok_aloadn (pc' := 2554) i0_2553 rfl rfl <| ok_aloadn (pc' := 2555) i0_2554 rfl rfl <| ok_iload (pc' := 2557) i0_2555 rfl rfl <| ok_iconst (pc' := 2558) i0_2557 rfl <| ok_iadd (v := (i + 1)) (pc' := 2559) i0_2558 rfl rfl <| ok_iaload (v := v1) (pc' := 2560) i0_2559 (ShScr_k0 hS1) (by decide) (ShScr_l0 hS1) (by omega) hv1 rfl <| ok_cc i0_2560 rfl (cl_v o0 m13_325 na265 rfl rfl (bt rfl) (bt rfl) rfl (by rw [ShModel_k0 hS448, o265])) ln265 (pd265 (aR 448) (aI v1)) <| ?_
    refine ok_aloadn (pc' := 1) i265_0 rfl rfl <| ok_iconst (pc' := 2) i265_1 rfl <| ok_putfj (kk := 0) (pc' := 5) i265_2 o265 pi265_63 (ShModel_k0 hS448) rfl rfl <| ok_aloadn (pc' := 6) i265_5 rfl rfl <| ok_iloadn (pc' := 7) i265_6 rfl rfl <| ok_iconst (pc' := 8) i265_7 rfl <| ok_aloadn (pc' := 9) i265_8 rfl rfl <| ok_getfi (v := tx.1) (pc' := 12) i265_9 o265 gi9_344 (ShModel_k0 hS448) (rd_ni (by decide) hUt.1) rfl <| ?_
    refine ok_iconst (pc' := 13) i265_12 rfl <| ok_isub (v := (tx.1 - 1)) (pc' := 14) i265_13 rfl rfl <| ok_cc i265_14 rfl (cl_s o265 m9_140 na164 rfl rfl (bt rfl) (bt rfl) rfl) ln164 (pd164 (aI v1) (aI 0) (aI (tx.1 - 1))) <| ok_iloadn (pc' := 1) i164_0 rfl rfl <| ok_iloadn (pc' := 2) i164_1 rfl rfl <| ?_
    refine ok_clt (pc1 := 14) (pc2 := 5) i164_2 (by omega) rfl rfl (fun h502 => ?_) (fun h9 => by exfalso; omega)
    refine ok_iconst (pc' := 15) i164_14 rfl <| ok_iretz i164_15 rt164 (by decide) <| kt_v (pc' := 17) rfl <| ok_kz0 (pc1 := 24) (pc2 := 20) i265_17 (by decide) rfl rfl <| ok_iconst (pc' := 21) i265_20 rfl <| ok_goto (pc' := 25) i265_21 rfl <| ok_iconst (pc' := 26) i265_25 rfl <| ok_cc i265_26 rfl (cl_v o265 m9_70 na165 rfl rfl (bt rfl) (bt rfl) rfl (by rw [ShModel_k0 hS448, o165])) ln165 (pd165 (aR 448) (aI 1) (aI 1)) <| ?_
    refine ok_aloadn (pc' := 1) i165_0 rfl rfl <| ok_getfi (v := 0) (pc' := 4) i165_1 o165 gi9_63 (ShModel_k0 hS448) rd_eq rfl <| ok_kz0 (pc1 := 16) (pc2 := 7) i165_4 (by decide) rfl rfl <| ok_iloadn (pc' := 8) i165_7 rfl rfl <| ok_kz0 (pc1 := 16) (pc2 := 11) i165_8 (by decide) rfl rfl <| ok_aloadn (pc' := 12) i165_11 rfl rfl <| ok_iloadn (pc' := 13) i165_12 rfl rfl <| ok_putfj (kk := 0) (pc' := 16) i165_13 o165 pi165_63 (ShModel_k0 hS448) rfl rfl <| ?_
    refine ok_aloadn (pc' := 17) i165_16 rfl rfl <| ok_getfi (v := 1) (pc' := 20) i165_17 o165 gi9_63 (ShModel_k0 hS448) rd_eq rfl <| ok_kz0 (pc1 := 27) (pc2 := 23) i165_20 (by decide) rfl rfl <| ok_iconst (pc' := 24) i165_23 rfl <| ok_goto (pc' := 28) i165_24 rfl <| ok_iretz i165_28 rt165 (by decide) <| kt_v (pc' := 29) rfl <| ok_kz0 (pc1 := 36) (pc2 := 32) i265_29 (by decide) rfl rfl <| ?_
    refine ok_iconst (pc' := 33) i265_32 rfl <| ok_goto (pc' := 42) i265_33 rfl <| ok_ireti i265_42 rt265 <| kt_v (pc' := 2563) rfl <| ok_istore (pc' := 2565) (ls' := [aR 1, aR 100, aR 448, aR 464, aR 465, aI i, aI 1, aI 0, w8]) i0_2563 (bt rfl) rfl rfl <| ok_aloadn (pc' := 2566) i0_2565 rfl rfl <| ok_cc i0_2566 rfl (cl_v o0 m13_188 na157 rfl rfl (bt rfl) (bt rfl) rfl (by rw [ShModel_k0 hS448, o157])) ln157 (pd157 (aR 448)) <| ok_aloadn (pc' := 1) i157_0 rfl rfl <| ?_
    refine ok_getfi (v := 1) (pc' := 4) i157_1 o157 gi9_63 (ShModel_k0 hS448) rd_eq rfl <| ok_ireti i157_4 rt157 <| kt_v (pc' := 2569) rfl <| ok_iload (pc' := 2571) i0_2569 rfl rfl <| ok_kc1 (pc1 := 2576) (pc2 := 2574) i0_2571 (by decide) rfl rfl <| ok_iload (pc' := 2578) i0_2576 rfl rfl <| ok_kz1 (pc1 := 2593) (pc2 := 2581) i0_2578 (by decide) rfl rfl <| ok_goto (pc' := 3329) i0_2593 rfl <| ?_
    exact K _ _ _ _ _ _ hD (by omega) (Inv_mono (Inv_same hI (Same.thr (Same.thr Same.rfl))) (by omega))
  · refine ok_iloadn (pc' := 5) i142_4 rfl rfl <| ok_aloadn (pc' := 6) i142_5 rfl rfl <| ok_getfr (r := 446) (pc' := 9) i142_6 o142 gr0_86 (ShYard_k0 hS100) (ShYard_r15 hS100) rfl <| ok_getfi (v := tx.1) (pc' := 12) i142_9 o142 gi0_280 (ShText_k0 hS446) hT.1 rfl <| ?_
    refine ok_clt (pc1 := 26) (pc2 := 15) i142_12 (by omega) rfl rfl (fun h503 => ?_) (fun h503 => ?_)
    · refine ok_aloadn (pc' := 27) i142_26 rfl rfl <| ok_getfr (r := 446) (pc' := 30) i142_27 o142 gr0_86 (ShYard_k0 hS100) (ShYard_r15 hS100) rfl <| ok_getfr (r := (446 + 1)) (pc' := 33) i142_30 o142 gr0_300 (ShText_k0 hS446) (ShText_r0 hS446) rfl <| ok_iloadn (pc' := 34) i142_33 rfl rfl <| ok_baload (v := (tx.2 v1)) (pc' := 35) i142_34 (ShText_k1 hS446) (by decide) (ShText_l1 hS446) (by omega) (hT.2.2 v1 (by omega) (by omega)) rfl <| ok_ireti i142_35 rt142 <| kt_v (pc' := 7) rfl <| ok_i2l (v := (wr (tx.2 v1))) (pc' := 8) i316_7 rfl rfl <| ?_
      refine ok_lastore (pc' := 9) i316_8 (ShOut_k0 hS464) (ShOut_l0 hS464) (by decide) rfl <| ok_goto (pc' := 15) i316_9 rfl <| ok_iconst (pc' := 16) i316_15 rfl <| ok_ireti i316_16 rt316 <| kt_v (pc' := 2551) rfl <| ok_istore (pc' := 2553) (ls' := [aR 1, aR 100, aR 448, aR 464, aR 465, aI i, aI 0, w7, w8]) i0_2551 (bt rfl) rfl rfl <| ok_aloadn (pc' := 2554) i0_2553 rfl rfl <| ok_aloadn (pc' := 2555) i0_2554 rfl rfl <| ?_
      refine ok_iload (pc' := 2557) i0_2555 rfl rfl <| ok_iconst (pc' := 2558) i0_2557 rfl <| ok_iadd (v := (i + 1)) (pc' := 2559) i0_2558 rfl rfl <| ok_iaload (v := v1) (pc' := 2560) i0_2559 (ShScr_k0 hS1) (by decide) (ShScr_l0 hS1) (by omega) (rd_na (by omega) hv1) rfl <| ok_cc i0_2560 rfl (cl_v o0 m13_325 na265 rfl rfl (bt rfl) (bt rfl) rfl (by rw [ShModel_k0 hS448, o265])) ln265 (pd265 (aR 448) (aI v1)) <| ok_aloadn (pc' := 1) i265_0 rfl rfl <| ok_iconst (pc' := 2) i265_1 rfl <| ok_putfj (kk := 0) (pc' := 5) i265_2 o265 pi265_63 (ShModel_k0 hS448) rfl rfl <| ?_
      refine ok_aloadn (pc' := 6) i265_5 rfl rfl <| ok_iloadn (pc' := 7) i265_6 rfl rfl <| ok_iconst (pc' := 8) i265_7 rfl <| ok_aloadn (pc' := 9) i265_8 rfl rfl <| ok_getfi (v := tx.1) (pc' := 12) i265_9 o265 gi9_344 (ShModel_k0 hS448) (rd_ni (by decide) (rd_na (by omega) hUt.1)) rfl <| ok_iconst (pc' := 13) i265_12 rfl <| ok_isub (v := (tx.1 - 1)) (pc' := 14) i265_13 rfl rfl <| ok_cc i265_14 rfl (cl_s o265 m9_140 na164 rfl rfl (bt rfl) (bt rfl) rfl) ln164 (pd164 (aI v1) (aI 0) (aI (tx.1 - 1))) <| ?_
      refine ok_iloadn (pc' := 1) i164_0 rfl rfl <| ok_iloadn (pc' := 2) i164_1 rfl rfl <| ?_
      refine ok_clt (pc1 := 14) (pc2 := 5) i164_2 (by omega) rfl rfl (fun h9 => by exfalso; omega) (fun h504 => ?_)
      refine ok_iloadn (pc' := 6) i164_5 rfl rfl <| ok_iloadn (pc' := 7) i164_6 rfl rfl <| ?_
      refine ok_cgt (pc1 := 14) (pc2 := 10) i164_7 (by omega) rfl rfl (fun h9 => by exfalso; omega) (fun h505 => ?_)
      refine ok_iconst (pc' := 11) i164_10 rfl <| ok_goto (pc' := 15) i164_11 rfl <| ok_iretz i164_15 rt164 (by decide) <| kt_v (pc' := 17) rfl <| ok_kz1 (pc1 := 24) (pc2 := 20) i265_17 (by decide) rfl rfl <| ok_iconst (pc' := 25) i265_24 rfl <| ok_iconst (pc' := 26) i265_25 rfl <| ok_cc i265_26 rfl (cl_v o265 m9_70 na165 rfl rfl (bt rfl) (bt rfl) rfl (by rw [ShModel_k0 hS448, o165])) ln165 (pd165 (aR 448) (aI 0) (aI 1)) <| ?_
      refine ok_aloadn (pc' := 1) i165_0 rfl rfl <| ok_getfi (v := 0) (pc' := 4) i165_1 o165 gi9_63 (ShModel_k0 hS448) rd_eq rfl <| ok_kz0 (pc1 := 16) (pc2 := 7) i165_4 (by decide) rfl rfl <| ok_iloadn (pc' := 8) i165_7 rfl rfl <| ok_kz1 (pc1 := 16) (pc2 := 11) i165_8 (by decide) rfl rfl <| ok_aloadn (pc' := 17) i165_16 rfl rfl <| ok_getfi (v := 0) (pc' := 20) i165_17 o165 gi9_63 (ShModel_k0 hS448) rd_eq rfl <| ok_kz1 (pc1 := 27) (pc2 := 23) i165_20 (by decide) rfl rfl <| ?_
      refine ok_iconst (pc' := 28) i165_27 rfl <| ok_iretz i165_28 rt165 (by decide) <| kt_v (pc' := 29) rfl <| ok_kz1 (pc1 := 36) (pc2 := 32) i265_29 (by decide) rfl rfl <| ok_aloadn (pc' := 37) i265_36 rfl rfl <| ok_getfr (r := (448 + 15)) (pc' := 40) i265_37 o265 gr9_60 (ShModel_k0 hS448) (ShModel_r34 hS448) rfl <| ok_iloadn (pc' := 41) i265_40 rfl rfl <| ok_iaload (v := (tx.2 v1)) (pc' := 42) i265_41 (ShModel_k15 hS448) (by decide) (ShModel_l15 hS448) (by omega) (rd_na (by omega) (rd_na (by omega) (hUt.2.2 v1 (by omega) (by omega)))) rfl <| ?_
      refine ok_ireti i265_42 rt265 <| kt_v (pc' := 2563) rfl <| ok_istore (pc' := 2565) (ls' := [aR 1, aR 100, aR 448, aR 464, aR 465, aI i, aI 0, aI (tx.2 v1), w8]) i0_2563 (bt rfl) rfl rfl <| ok_aloadn (pc' := 2566) i0_2565 rfl rfl <| ok_cc i0_2566 rfl (cl_v o0 m13_188 na157 rfl rfl (bt rfl) (bt rfl) rfl (by rw [ShModel_k0 hS448, o157])) ln157 (pd157 (aR 448)) <| ok_aloadn (pc' := 1) i157_0 rfl rfl <| ok_getfi (v := 0) (pc' := 4) i157_1 o157 gi9_63 (ShModel_k0 hS448) rd_eq rfl <| ok_ireti i157_4 rt157 <| ?_
      refine kt_v (pc' := 2569) rfl <| ok_iload (pc' := 2571) i0_2569 rfl rfl <| ok_kc1 (pc1 := 2576) (pc2 := 2574) i0_2571 (by decide) rfl rfl <| ok_iload (pc' := 2578) i0_2576 rfl rfl <| ok_kz0 (pc1 := 2593) (pc2 := 2581) i0_2578 (by decide) rfl rfl <| ok_aloadn (pc' := 2582) i0_2581 rfl rfl <| ok_iconst (pc' := 2583) i0_2582 rfl <| ok_laload (v := (wr (tx.2 v1))) (pc' := 2584) i0_2583 (ShOut_k0 hS464) (ShOut_l0 hS464) (by decide) (rd_na (by omega) rd_eq) rfl <| ?_
      refine ok_iload (pc' := 2586) i0_2584 rfl rfl <| ok_i2l (v := (wr (tx.2 v1))) (pc' := 2587) i0_2586 rfl rfl <| ok_lcmp0 (pc' := 2588) i0_2587 rfl <| ok_kz1 (pc1 := 2593) (pc2 := 2591) i0_2588 (by decide) rfl rfl <| ok_goto (pc' := 3329) i0_2593 rfl <| ?_
      exact K _ _ _ _ _ _ hD (by omega) (Inv_mono (Inv_same hI (Same.thr (Same.out Same.rfl))) (by omega))
    · refine ok_throw th142_15 (bt rfl) <| kt_h hn316 hf316_4_10 hr316_12 <| kt_v (pc' := 2551) rfl <| ?_
      refine ok_al hD (fun g hD => ?_)
      have hS448 := HD_o hD
      have hS1 := HD_s hD
      have hS464 := HD_u hD
      have hS465 := HD_ud hD
      refine ok_istore (pc' := 2553) (ls' := [aR 1, aR 100, aR 448, aR 464, aR 465, aI i, aI 1, w7, w8]) i0_2551 (bt rfl) rfl rfl <| ok_aloadn (pc' := 2554) i0_2553 rfl rfl <| ok_aloadn (pc' := 2555) i0_2554 rfl rfl <| ok_iload (pc' := 2557) i0_2555 rfl rfl <| ok_iconst (pc' := 2558) i0_2557 rfl <| ok_iadd (v := (i + 1)) (pc' := 2559) i0_2558 rfl rfl <| ok_iaload (v := v1) (pc' := 2560) i0_2559 (ShScr_k0 hS1) (by decide) (ShScr_l0 hS1) (by omega) hv1 rfl <| ok_cc i0_2560 rfl (cl_v o0 m13_325 na265 rfl rfl (bt rfl) (bt rfl) rfl (by rw [ShModel_k0 hS448, o265])) ln265 (pd265 (aR 448) (aI v1)) <| ?_
      refine ok_aloadn (pc' := 1) i265_0 rfl rfl <| ok_iconst (pc' := 2) i265_1 rfl <| ok_putfj (kk := 0) (pc' := 5) i265_2 o265 pi265_63 (ShModel_k0 hS448) rfl rfl <| ok_aloadn (pc' := 6) i265_5 rfl rfl <| ok_iloadn (pc' := 7) i265_6 rfl rfl <| ok_iconst (pc' := 8) i265_7 rfl <| ok_aloadn (pc' := 9) i265_8 rfl rfl <| ok_getfi (v := tx.1) (pc' := 12) i265_9 o265 gi9_344 (ShModel_k0 hS448) (rd_ni (by decide) hUt.1) rfl <| ?_
      refine ok_iconst (pc' := 13) i265_12 rfl <| ok_isub (v := (tx.1 - 1)) (pc' := 14) i265_13 rfl rfl <| ok_cc i265_14 rfl (cl_s o265 m9_140 na164 rfl rfl (bt rfl) (bt rfl) rfl) ln164 (pd164 (aI v1) (aI 0) (aI (tx.1 - 1))) <| ok_iloadn (pc' := 1) i164_0 rfl rfl <| ok_iloadn (pc' := 2) i164_1 rfl rfl <| ?_
      refine ok_clt (pc1 := 14) (pc2 := 5) i164_2 (by omega) rfl rfl (fun h9 => by exfalso; omega) (fun h506 => ?_)
      refine ok_iloadn (pc' := 6) i164_5 rfl rfl <| ok_iloadn (pc' := 7) i164_6 rfl rfl <| ?_
      refine ok_cgt (pc1 := 14) (pc2 := 10) i164_7 (by omega) rfl rfl (fun h507 => ?_) (fun h9 => by exfalso; omega)
      refine ok_iconst (pc' := 15) i164_14 rfl <| ok_iretz i164_15 rt164 (by decide) <| kt_v (pc' := 17) rfl <| ok_kz0 (pc1 := 24) (pc2 := 20) i265_17 (by decide) rfl rfl <| ok_iconst (pc' := 21) i265_20 rfl <| ok_goto (pc' := 25) i265_21 rfl <| ok_iconst (pc' := 26) i265_25 rfl <| ok_cc i265_26 rfl (cl_v o265 m9_70 na165 rfl rfl (bt rfl) (bt rfl) rfl (by rw [ShModel_k0 hS448, o165])) ln165 (pd165 (aR 448) (aI 1) (aI 1)) <| ?_
      refine ok_aloadn (pc' := 1) i165_0 rfl rfl <| ok_getfi (v := 0) (pc' := 4) i165_1 o165 gi9_63 (ShModel_k0 hS448) rd_eq rfl <| ok_kz0 (pc1 := 16) (pc2 := 7) i165_4 (by decide) rfl rfl <| ok_iloadn (pc' := 8) i165_7 rfl rfl <| ok_kz0 (pc1 := 16) (pc2 := 11) i165_8 (by decide) rfl rfl <| ok_aloadn (pc' := 12) i165_11 rfl rfl <| ok_iloadn (pc' := 13) i165_12 rfl rfl <| ok_putfj (kk := 0) (pc' := 16) i165_13 o165 pi165_63 (ShModel_k0 hS448) rfl rfl <| ?_
      refine ok_aloadn (pc' := 17) i165_16 rfl rfl <| ok_getfi (v := 1) (pc' := 20) i165_17 o165 gi9_63 (ShModel_k0 hS448) rd_eq rfl <| ok_kz0 (pc1 := 27) (pc2 := 23) i165_20 (by decide) rfl rfl <| ok_iconst (pc' := 24) i165_23 rfl <| ok_goto (pc' := 28) i165_24 rfl <| ok_iretz i165_28 rt165 (by decide) <| kt_v (pc' := 29) rfl <| ok_kz0 (pc1 := 36) (pc2 := 32) i265_29 (by decide) rfl rfl <| ?_
      refine ok_iconst (pc' := 33) i265_32 rfl <| ok_goto (pc' := 42) i265_33 rfl <| ok_ireti i265_42 rt265 <| kt_v (pc' := 2563) rfl <| ok_istore (pc' := 2565) (ls' := [aR 1, aR 100, aR 448, aR 464, aR 465, aI i, aI 1, aI 0, w8]) i0_2563 (bt rfl) rfl rfl <| ok_aloadn (pc' := 2566) i0_2565 rfl rfl <| ok_cc i0_2566 rfl (cl_v o0 m13_188 na157 rfl rfl (bt rfl) (bt rfl) rfl (by rw [ShModel_k0 hS448, o157])) ln157 (pd157 (aR 448)) <| ok_aloadn (pc' := 1) i157_0 rfl rfl <| ?_
      refine ok_getfi (v := 1) (pc' := 4) i157_1 o157 gi9_63 (ShModel_k0 hS448) rd_eq rfl <| ok_ireti i157_4 rt157 <| kt_v (pc' := 2569) rfl <| ok_iload (pc' := 2571) i0_2569 rfl rfl <| ok_kc1 (pc1 := 2576) (pc2 := 2574) i0_2571 (by decide) rfl rfl <| ok_iload (pc' := 2578) i0_2576 rfl rfl <| ok_kz1 (pc1 := 2593) (pc2 := 2581) i0_2578 (by decide) rfl rfl <| ok_goto (pc' := 3329) i0_2593 rfl <| ?_
      exact K _ _ _ _ _ _ hD (by omega) (Inv_mono (Inv_same hI (Same.thr (Same.thr Same.rfl))) (by omega))
theorem c55_1_0 {L n : Nat} {g : AG} {M : AM} {xs : Nat → Int32} {b i : Int} {w6 w7 w8 : AV} {Q : AO → AG → AM → Prop} (hD : HD L n g) (hI : Inv xs b M) (hi : 0 ≤ i ∧ i + 6 ≤ L) (hb : 0 ≤ b ∧ b ≤ 900000) (hl : M 100 6 = 1) (hc1 : M 1 (i + 1) = 0) (K : KK L n i b xs Q) :
    Ok 10 0 3217 [aR 1, aR 100, aR 448, aR 464, aR 465, aI i, w6, w7, w8] [] g M Q := by
  have hI0 := hI
  obtain ⟨hA, hld, hl01, q, hc, ⟨nx, sz, hH, hsz⟩, hS⟩ := hI0
  have hH0 := hH
  obtain ⟨⟨hn1, hn0⟩, ⟨hz2, hz0⟩, h10, hHj⟩ := hH0
  obtain ⟨hw0, ⟨bu, by_, hb1, hb13, hbu, hZ, hU⟩, he3, he4, he5, hId, tx, hT, hUt, htl, htr⟩ := hA
  have htz := hT.2.1
  obtain ⟨s, hP, hRB, hO, hV, hQ, h40⟩ := hc hl
  have ys3 := V_3 hV
  have ys4 := V_4 hV
  have yq0 := Q_0 hQ
  have yq1 := Q_1 hQ
  obtain ⟨v1, hv1⟩ : ∃ u9 : Int, M 1 (i + 1) = u9 := ⟨_, rfl⟩
  have hr1 : -2147483648 ≤ v1 ∧ v1 < 2147483648 := hv1 ▸ scr_rg hw0 (i + 1)
  have hS1 := HD_s hD
  have hS100 := HD_y hD
  have hS149 := HD_b hD
  have hS448 := HD_o hD
  have hS464 := HD_u hD
  refine ok_aloadn (pc' := 3218) i0_3217 rfl rfl <| ok_aloadn (pc' := 3219) i0_3218 rfl rfl <| ok_iload (pc' := 3221) i0_3219 rfl rfl <| ok_iconst (pc' := 3222) i0_3221 rfl <| ok_iadd (v := (i + 1)) (pc' := 3223) i0_3222 rfl rfl <| ok_iaload (v := 0) (pc' := 3224) i0_3223 (ShScr_k0 hS1) (by decide) (ShScr_l0 hS1) (by omega) hc1 rfl <| ok_aloadn (pc' := 3225) i0_3224 rfl rfl <| ok_cc i0_3225 rfl (cl_s o0 m13_361 na327 rfl rfl (bt rfl) (bt rfl) rfl) ln327 (pd327 (aR 100) (aI 0) (aR 464)) <| ?_
  refine ok_aloadn (pc' := 1) i327_0 rfl rfl <| ok_iconst (pc' := 2) i327_1 rfl <| ok_aloadn (pc' := 3) i327_2 rfl rfl <| ok_iloadn (pc' := 4) i327_3 rfl rfl <| ok_cc i327_4 rfl (cl_v o327 m13_167 na153 rfl rfl (bt rfl) (bt rfl) rfl (by rw [ShYard_k0 hS100, o153])) ln153 (pd153 (aR 100) (aI 0)) <| ok_aloadn (pc' := 1) i153_0 rfl rfl <| ok_cc i153_1 rfl (cl_v o153 m0_132 na99 rfl rfl (bt rfl) (bt rfl) rfl (by rw [ShYard_k0 hS100, o99])) ln99 (pd99 (aR 100)) <| ok_aloadn (pc' := 1) i99_0 rfl rfl <| ?_
  refine ok_getfi (v := 1) (pc' := 4) i99_1 o99 gi0_268 (ShYard_k0 hS100) hl rfl <| ok_kz1 (pc1 := 18) (pc2 := 7) i99_4 (by decide) rfl rfl <| ok_vret i99_18 rt99 <| kt_0 (pc' := 4) rfl <| ok_iloadn (pc' := 5) i153_4 rfl rfl <| ok_cc i153_5 rfl (cl_s o153 m0_352 na154 rfl rfl (bt rfl) (bt rfl) rfl) ln154 (pd154 (aI 0)) <| ok_iloadn (pc' := 1) i154_0 rfl rfl <| ok_kz0 (pc1 := 9) (pc2 := 4) i154_1 (by decide) rfl rfl <| ?_
  refine ok_iloadn (pc' := 5) i154_4 rfl rfl <| ok_iconst (pc' := 6) i154_5 rfl <| ok_kc1 (pc1 := 20) (pc2 := 9) i154_6 (by decide) rfl rfl <| ok_vret i154_20 rt154 <| kt_0 (pc' := 8) rfl <| ok_aloadn (pc' := 9) i153_8 rfl rfl <| ok_getfr (r := (100 + 296)) (pc' := 12) i153_9 o153 gr0_75 (ShYard_k0 hS100) (ShYard_r13 hS100) rfl <| ok_iloadn (pc' := 13) i153_12 rfl rfl <| ?_
  refine ok_aaload (r := (397 + 24 * 0)) (pc' := 14) i153_13 (ShYard_k296 hS100) (by decide) (ShYard_l296 hS100) (by decide) (ShYard_e296_0 hS100) rfl <| ok_aloadn (pc' := 15) i153_14 rfl rfl <| ok_getfr (r := 149) (pc' := 18) i153_15 o153 gr0_39 (ShYard_k0 hS100) (ShYard_r8 hS100) rfl <| ?_
  refine ok_cn0 (pc' := 21) (d0 := 0) i153_18 rfl (cl_v o153 m0_355 na17 rfl rfl (bt rfl) (bt rfl) rfl (by rw [ShState_k0 (HD_sl hD 0 (by omega)), o17])) ln17 (pd17 (aR (397 + 24 * 0)) (aR 149)) (by omega) (t17 (B := 397 + 24 * 0) (A := 149) (HD_sl hD 0 (by omega)) hS149 hRB hV hQ (by omega)) rfl (fun M501 p502 => ?_)
  refine ok_aloadn (pc' := 22) i153_21 rfl rfl <| ok_getfr (r := (100 + 345)) (pc' := 25) i153_22 o153 gr0_79 (ShYard_k0 hS100) (ShYard_r14 hS100) rfl <| ok_iloadn (pc' := 26) i153_25 rfl rfl <| ok_iconst (pc' := 27) i153_26 rfl <| ok_bastore (v := 1) (pc' := 28) i153_27 (Or.inr ⟨(ShYard_k345 hS100), by omega⟩) (ShYard_l345 hS100) (by decide) (by decide) rfl <| ok_aloadn (pc' := 29) i153_28 rfl rfl <| ok_getfr (r := 149) (pc' := 32) i153_29 o153 gr0_39 (ShYard_k0 hS100) (ShYard_r8 hS100) rfl <| ?_
  have hCM501_149 : RepS M501 149 s := RepS.fr hRB (fun a h1 h2 => (p502.2 a (by omega)).trans rfl)
  have z301 : 0 ≤ s 0 ∧ s 0 ≤ 1000000 := V_0 hV
  refine ok_getfi (v := (s 0)) (pc' := 35) i153_32 o153 gi0_200 (ShState_k0 hS149) (rd_na (by omega) (RepS_f0 hCM501_149)) rfl <| ok_ireti i153_35 rt153 <| kt_v (pc' := 7) rfl <| ok_i2l (v := (wr (s 0))) (pc' := 8) i327_7 rfl rfl <| ok_lastore (pc' := 9) i327_8 (ShOut_k0 hS464) (ShOut_l0 hS464) (by decide) rfl <| ok_goto (pc' := 18) i327_9 rfl <| ok_iconst (pc' := 19) i327_18 rfl <| ok_ireti i327_19 rt327 <| ?_
  refine kt_v (pc' := 3228) rfl <| ok_istore (pc' := 3230) (ls' := [aR 1, aR 100, aR 448, aR 464, aR 465, aI i, aI 0, w7, w8]) i0_3228 (bt rfl) rfl rfl <| ok_aloadn (pc' := 3231) i0_3230 rfl rfl <| ok_aloadn (pc' := 3232) i0_3231 rfl rfl <| ok_iload (pc' := 3234) i0_3232 rfl rfl <| ok_iconst (pc' := 3235) i0_3234 rfl <| ok_iadd (v := (i + 1)) (pc' := 3236) i0_3235 rfl rfl <| ok_iaload (v := 0) (pc' := 3237) i0_3236 (ShScr_k0 hS1) (by decide) (ShScr_l0 hS1) (by omega) (rd_na (by omega) (rd_na (by omega) (Eq.trans (congrFun (p502.2 1 (by omega)) (i + 1)) hc1))) rfl <| ?_
  refine ok_cc i0_3237 rfl (cl_v o0 m13_363 na277 rfl rfl (bt rfl) (bt rfl) rfl (by rw [ShModel_k0 hS448, o277])) ln277 (pd277 (aR 448) (aI 0)) <| ok_aloadn (pc' := 1) i277_0 rfl rfl <| ok_cc i277_1 rfl (cl_v o277 m9_216 na188 rfl rfl (bt rfl) (bt rfl) rfl (by rw [ShModel_k0 hS448, o188])) ln188 (pd188 (aR 448)) <| ok_aloadn (pc' := 1) i188_0 rfl rfl <| ok_iconst (pc' := 2) i188_1 rfl <| ok_putfj (kk := 0) (pc' := 5) i188_2 o188 pi188_63 (ShModel_k0 hS448) rfl rfl <| ok_aloadn (pc' := 6) i188_5 rfl rfl <| ok_aloadn (pc' := 7) i188_6 rfl rfl <| ?_
  have hCM501_448 : RepO M501 448 q s := RepO.fr hO ⟨((congrFun (p502.2 448 (by omega)) 2).trans (by rfl)), ((congrFun (p502.2 448 (by omega)) 3).trans (by rfl))⟩ (fun a h1 h2 => (p502.2 a (by omega)).trans rfl)
  refine ok_getfi (v := 1) (pc' := 10) i188_7 o188 gi9_66 (ShModel_k0 hS448) (rd_ni (by decide) (rd_na (by omega) (rd_na (by omega) (Eq.trans (congrFun (p502.2 448 (by omega)) 1) (hld.trans hl))))) rfl <| ok_kz1 (pc1 := 17) (pc2 := 13) i188_10 (by decide) rfl rfl <| ok_iconst (pc' := 18) i188_17 rfl <| ok_iconst (pc' := 19) i188_18 rfl <| ok_cc i188_19 rfl (cl_v o188 m9_70 na165 rfl rfl (bt rfl) (bt rfl) rfl (by rw [ShModel_k0 hS448, o165])) ln165 (pd165 (aR 448) (aI 0) (aI 1)) <| ok_aloadn (pc' := 1) i165_0 rfl rfl <| ok_getfi (v := 0) (pc' := 4) i165_1 o165 gi9_63 (ShModel_k0 hS448) rd_eq rfl <| ok_kz0 (pc1 := 16) (pc2 := 7) i165_4 (by decide) rfl rfl <| ?_
  refine ok_iloadn (pc' := 8) i165_7 rfl rfl <| ok_kz1 (pc1 := 16) (pc2 := 11) i165_8 (by decide) rfl rfl <| ok_aloadn (pc' := 17) i165_16 rfl rfl <| ok_getfi (v := 0) (pc' := 20) i165_17 o165 gi9_63 (ShModel_k0 hS448) rd_eq rfl <| ok_kz1 (pc1 := 27) (pc2 := 23) i165_20 (by decide) rfl rfl <| ok_iconst (pc' := 28) i165_27 rfl <| ok_iretz i165_28 rt165 (by decide) <| kt_v (pc' := 22) rfl <| ?_
  refine ok_iretz i188_22 rt188 (by decide) <| kt_v (pc' := 4) rfl <| ok_kz0 (pc1 := 29) (pc2 := 7) i277_4 (by decide) rfl rfl <| ok_aloadn (pc' := 8) i277_7 rfl rfl <| ok_iloadn (pc' := 9) i277_8 rfl rfl <| ok_iconst (pc' := 10) i277_9 rfl <| ok_iconst (pc' := 11) i277_10 rfl <| ok_cc i277_11 rfl (cl_s o277 m9_140 na164 rfl rfl (bt rfl) (bt rfl) rfl) ln164 (pd164 (aI 0) (aI 0) (aI 1)) <| ?_
  refine ok_iloadn (pc' := 1) i164_0 rfl rfl <| ok_iloadn (pc' := 2) i164_1 rfl rfl <| ok_kc0 (pc1 := 14) (pc2 := 5) i164_2 (by decide) rfl rfl <| ok_iloadn (pc' := 6) i164_5 rfl rfl <| ok_iloadn (pc' := 7) i164_6 rfl rfl <| ok_kc0 (pc1 := 14) (pc2 := 10) i164_7 (by decide) rfl rfl <| ok_iconst (pc' := 11) i164_10 rfl <| ok_goto (pc' := 15) i164_11 rfl <| ?_
  refine ok_iretz i164_15 rt164 (by decide) <| kt_v (pc' := 14) rfl <| ok_kz1 (pc1 := 21) (pc2 := 17) i277_14 (by decide) rfl rfl <| ok_iconst (pc' := 22) i277_21 rfl <| ok_iconst (pc' := 23) i277_22 rfl <| ok_cc i277_23 rfl (cl_v o277 m9_70 na165 rfl rfl (bt rfl) (bt rfl) rfl (by rw [ShModel_k0 hS448, o165])) ln165 (pd165 (aR 448) (aI 0) (aI 2)) <| ok_aloadn (pc' := 1) i165_0 rfl rfl <| ok_getfi (v := 0) (pc' := 4) i165_1 o165 gi9_63 (ShModel_k0 hS448) rd_eq rfl <| ?_
  refine ok_kz0 (pc1 := 16) (pc2 := 7) i165_4 (by decide) rfl rfl <| ok_iloadn (pc' := 8) i165_7 rfl rfl <| ok_kz1 (pc1 := 16) (pc2 := 11) i165_8 (by decide) rfl rfl <| ok_aloadn (pc' := 17) i165_16 rfl rfl <| ok_getfi (v := 0) (pc' := 20) i165_17 o165 gi9_63 (ShModel_k0 hS448) rd_eq rfl <| ok_kz1 (pc1 := 27) (pc2 := 23) i165_20 (by decide) rfl rfl <| ok_iconst (pc' := 28) i165_27 rfl <| ok_iretz i165_28 rt165 (by decide) <| ?_
  refine kt_v (pc' := 26) rfl <| ok_kz1 (pc1 := 31) (pc2 := 29) i277_26 (by decide) rfl rfl <| ok_aloadn (pc' := 32) i277_31 rfl rfl <| ok_bipush (v := 9) (pc' := 34) i277_32 rfl rfl <| ok_iloadn (pc' := 35) i277_34 rfl rfl <| ok_iadd (v := 9) (pc' := 36) i277_35 rfl rfl <| ?_
  refine ok_cn0 (pc' := 39) (d0 := 0) i277_36 rfl (cl_v o277 m9_314 na234 rfl rfl (bt rfl) (bt rfl) rfl (by rw [ShModel_k0 hS448, o234])) ln234 (pd234 (aR 448) (aI 9)) (by omega) (t234 (x1 := 9) hS448 (by omega)) rfl (fun M503 p504 => ?_)
  refine ok_aloadn (pc' := 40) i277_39 rfl rfl <| ok_getfr (r := (448 + 7)) (pc' := 43) i277_40 o277 gr9_28 (ShModel_k0 hS448) (ShModel_r11 hS448) rfl <| ok_iloadn (pc' := 44) i277_43 rfl rfl <| ok_iconst (pc' := 45) i277_44 rfl <| ok_bastore (v := 1) (pc' := 46) i277_45 (Or.inr ⟨(ShModel_k7 hS448), by omega⟩) (ShModel_l7 hS448) (by decide) (by decide) rfl <| ok_aloadn (pc' := 47) i277_46 rfl rfl <| ok_getfr (r := (448 + 5)) (pc' := 50) i277_47 o277 gr9_22 (ShModel_k0 hS448) (ShModel_r8 hS448) rfl <| ok_iconst (pc' := 51) i277_50 rfl <| ?_
  have hCM503_448 : RepO M503 448 q s := RepO.fr hCM501_448 ⟨((congrFun (upM_fr p504 (a := 448) (by omega)) 2).trans (by rw [up2_rd, if_neg (by omega), up2_na (by omega), up2_na (by omega)])), ((congrFun (upM_fr p504 (a := 448) (by omega)) 3).trans (by rw [up2_rd, if_neg (by omega), up2_na (by omega), up2_na (by omega)]))⟩ (fun a h1 h2 => (upM_fr p504 (by omega)).trans (by rw [up2_na (by omega), up2_na (by omega), up2_na (by omega)]))
  refine ok_iaload (v := (s 0)) (pc' := 52) i277_51 (ShModel_k5 hS448) (by decide) (ShModel_l5 hS448) (by decide) (rd_na (by omega) (RepO_s hCM503_448)) rfl <| ok_ireti i277_52 rt277 <| kt_v (pc' := 3240) rfl <| ok_istore (pc' := 3242) (ls' := [aR 1, aR 100, aR 448, aR 464, aR 465, aI i, aI 0, aI (s 0), w8]) i0_3240 (bt rfl) rfl rfl <| ok_aloadn (pc' := 3243) i0_3242 rfl rfl <| ok_cc i0_3243 rfl (cl_v o0 m13_188 na157 rfl rfl (bt rfl) (bt rfl) rfl (by rw [ShModel_k0 hS448, o157])) ln157 (pd157 (aR 448)) <| ok_aloadn (pc' := 1) i157_0 rfl rfl <| ok_getfi (v := 0) (pc' := 4) i157_1 o157 gi9_63 (ShModel_k0 hS448) (rd_na (by omega) (Eq.trans (congrFun (upM_fr p504 (a := 448) (by omega)) 0) rd_eq)) rfl <| ?_
  refine ok_ireti i157_4 rt157 <| kt_v (pc' := 3246) rfl <| ok_iload (pc' := 3248) i0_3246 rfl rfl <| ok_kc1 (pc1 := 3253) (pc2 := 3251) i0_3248 (by decide) rfl rfl <| ok_iload (pc' := 3255) i0_3253 rfl rfl <| ok_kz0 (pc1 := 3270) (pc2 := 3258) i0_3255 (by decide) rfl rfl <| ok_aloadn (pc' := 3259) i0_3258 rfl rfl <| ok_iconst (pc' := 3260) i0_3259 rfl <| ?_
  refine ok_laload (v := (wr (s 0))) (pc' := 3261) i0_3260 (ShOut_k0 hS464) (ShOut_l0 hS464) (by decide) (rd_na (by omega) (Eq.trans (congrFun (upM_fr p504 (a := 464) (by omega)) 0) (rd_na (by omega) rd_eq))) rfl <| ok_iload (pc' := 3263) i0_3261 rfl rfl <| ok_i2l (v := (wr (s 0))) (pc' := 3264) i0_3263 rfl rfl <| ok_lcmp0 (pc' := 3265) i0_3264 rfl <| ok_kz1 (pc1 := 3270) (pc2 := 3268) i0_3265 (by decide) rfl rfl <| ok_goto (pc' := 3329) i0_3270 rfl <| ?_
  exact K _ _ _ _ _ _ hD (by omega) (Inv_mono (Inv_save (w := 0) (x := 9) (by decide) hI hl ⟨hP, hRB, hO, hV, hQ, h40⟩ hH hS p502.1 p502.2 (by decide) rfl p504 rfl) (by omega))
theorem c56_0_0 {L n : Nat} {g : AG} {M : AM} {xs : Nat → Int32} {b i : Int} {w6 w7 w8 : AV} {Q : AO → AG → AM → Prop} (hD : HD L n g) (hI : Inv xs b M) (hi : 0 ≤ i ∧ i + 6 ≤ L) (hb : 0 ≤ b ∧ b ≤ 900000) (hl : M 100 6 = 0) (hc1 : M 1 (i + 1) = 0) (hu1 : M 445 0 = 0) (K : KK L n i b xs Q) :
    Ok 10 0 3273 [aR 1, aR 100, aR 448, aR 464, aR 465, aI i, w6, w7, w8] [] g M Q := by
  have hI0 := hI
  obtain ⟨hA, hld, hl01, q, hc, ⟨nx, sz, hH, hsz⟩, hS⟩ := hI0
  have hH0 := hH
  obtain ⟨⟨hn1, hn0⟩, ⟨hz2, hz0⟩, h10, hHj⟩ := hH0
  obtain ⟨hw0, ⟨bu, by_, hb1, hb13, hbu, hZ, hU⟩, he3, he4, he5, hId, tx, hT, hUt, htl, htr⟩ := hA
  have htz := hT.2.1
  obtain ⟨v1, hv1⟩ : ∃ u9 : Int, M 1 (i + 1) = u9 := ⟨_, rfl⟩
  have hr1 : -2147483648 ≤ v1 ∧ v1 < 2147483648 := hv1 ▸ scr_rg hw0 (i + 1)
  have hS1 := HD_s hD
  have hS100 := HD_y hD
  have hS448 := HD_o hD
  have hS464 := HD_u hD
  have hS465 := HD_ud hD
  have hu2 : M 455 0 = 0 := (hS 0 (by decide)).1.trans hu1
  refine ok_aloadn (pc' := 3274) i0_3273 rfl rfl <| ok_aloadn (pc' := 3275) i0_3274 rfl rfl <| ok_iload (pc' := 3277) i0_3275 rfl rfl <| ok_iconst (pc' := 3278) i0_3277 rfl <| ok_iadd (v := (i + 1)) (pc' := 3279) i0_3278 rfl rfl <| ok_iaload (v := 0) (pc' := 3280) i0_3279 (ShScr_k0 hS1) (by decide) (ShScr_l0 hS1) (by omega) hc1 rfl <| ok_aloadn (pc' := 3281) i0_3280 rfl rfl <| ok_cc i0_3281 rfl (cl_s o0 m13_364 na328 rfl rfl (bt rfl) (bt rfl) rfl) ln328 (pd328 (aR 100) (aI 0) (aR 464)) <| ?_
  refine ok_aloadn (pc' := 1) i328_0 rfl rfl <| ok_iconst (pc' := 2) i328_1 rfl <| ok_aloadn (pc' := 3) i328_2 rfl rfl <| ok_iloadn (pc' := 4) i328_3 rfl rfl <| ok_cc i328_4 rfl (cl_v o328 m13_170 na155 rfl rfl (bt rfl) (bt rfl) rfl (by rw [ShYard_k0 hS100, o155])) ln155 (pd155 (aR 100) (aI 0)) <| ok_iloadn (pc' := 1) i155_0 rfl rfl <| ok_cc i155_1 rfl (cl_s o155 m0_352 na154 rfl rfl (bt rfl) (bt rfl) rfl) ln154 (pd154 (aI 0)) <| ok_iloadn (pc' := 1) i154_0 rfl rfl <| ?_
  refine ok_kz0 (pc1 := 9) (pc2 := 4) i154_1 (by decide) rfl rfl <| ok_iloadn (pc' := 5) i154_4 rfl rfl <| ok_iconst (pc' := 6) i154_5 rfl <| ok_kc1 (pc1 := 20) (pc2 := 9) i154_6 (by decide) rfl rfl <| ok_vret i154_20 rt154 <| kt_0 (pc' := 4) rfl <| ok_aloadn (pc' := 5) i155_4 rfl rfl <| ok_getfr (r := (100 + 345)) (pc' := 8) i155_5 o155 gr0_79 (ShYard_k0 hS100) (ShYard_r14 hS100) rfl <| ?_
  refine ok_iloadn (pc' := 9) i155_8 rfl rfl <| ok_baload (v := 0) (pc' := 10) i155_9 (ShYard_k345 hS100) (by decide) (ShYard_l345 hS100) (by decide) hu1 rfl <| ok_kz0 (pc1 := 24) (pc2 := 13) i155_10 (by decide) rfl rfl <| ok_throw th155_13 (bt rfl) <| kt_h hn328 hf328_4_12 hr328_15 <| kt_v (pc' := 3284) rfl <| ?_
  refine ok_al hD (fun g hD => ?_)
  have hS448 := HD_o hD
  have hS1 := HD_s hD
  have hS464 := HD_u hD
  have hS465 := HD_ud hD
  refine ok_istore (pc' := 3286) (ls' := [aR 1, aR 100, aR 448, aR 464, aR 465, aI i, aI 2, w7, w8]) i0_3284 (bt rfl) rfl rfl <| ok_aloadn (pc' := 3287) i0_3286 rfl rfl <| ok_aloadn (pc' := 3288) i0_3287 rfl rfl <| ok_iload (pc' := 3290) i0_3288 rfl rfl <| ok_iconst (pc' := 3291) i0_3290 rfl <| ok_iadd (v := (i + 1)) (pc' := 3292) i0_3291 rfl rfl <| ok_iaload (v := 0) (pc' := 3293) i0_3292 (ShScr_k0 hS1) (by decide) (ShScr_l0 hS1) (by omega) hc1 rfl <| ok_cc i0_3293 rfl (cl_v o0 m13_366 na278 rfl rfl (bt rfl) (bt rfl) rfl (by rw [ShModel_k0 hS448, o278])) ln278 (pd278 (aR 448) (aI 0)) <| ?_
  refine ok_aloadn (pc' := 1) i278_0 rfl rfl <| ok_iconst (pc' := 2) i278_1 rfl <| ok_putfj (kk := 0) (pc' := 5) i278_2 o278 pi278_63 (ShModel_k0 hS448) rfl rfl <| ok_aloadn (pc' := 6) i278_5 rfl rfl <| ok_iloadn (pc' := 7) i278_6 rfl rfl <| ok_iconst (pc' := 8) i278_7 rfl <| ok_iconst (pc' := 9) i278_8 rfl <| ok_cc i278_9 rfl (cl_s o278 m9_140 na164 rfl rfl (bt rfl) (bt rfl) rfl) ln164 (pd164 (aI 0) (aI 0) (aI 1)) <| ?_
  refine ok_iloadn (pc' := 1) i164_0 rfl rfl <| ok_iloadn (pc' := 2) i164_1 rfl rfl <| ok_kc0 (pc1 := 14) (pc2 := 5) i164_2 (by decide) rfl rfl <| ok_iloadn (pc' := 6) i164_5 rfl rfl <| ok_iloadn (pc' := 7) i164_6 rfl rfl <| ok_kc0 (pc1 := 14) (pc2 := 10) i164_7 (by decide) rfl rfl <| ok_iconst (pc' := 11) i164_10 rfl <| ok_goto (pc' := 15) i164_11 rfl <| ?_
  refine ok_iretz i164_15 rt164 (by decide) <| kt_v (pc' := 12) rfl <| ok_kz1 (pc1 := 19) (pc2 := 15) i278_12 (by decide) rfl rfl <| ok_iconst (pc' := 20) i278_19 rfl <| ok_iconst (pc' := 21) i278_20 rfl <| ok_cc i278_21 rfl (cl_v o278 m9_70 na165 rfl rfl (bt rfl) (bt rfl) rfl (by rw [ShModel_k0 hS448, o165])) ln165 (pd165 (aR 448) (aI 0) (aI 1)) <| ok_aloadn (pc' := 1) i165_0 rfl rfl <| ok_getfi (v := 0) (pc' := 4) i165_1 o165 gi9_63 (ShModel_k0 hS448) rd_eq rfl <| ?_
  refine ok_kz0 (pc1 := 16) (pc2 := 7) i165_4 (by decide) rfl rfl <| ok_iloadn (pc' := 8) i165_7 rfl rfl <| ok_kz1 (pc1 := 16) (pc2 := 11) i165_8 (by decide) rfl rfl <| ok_aloadn (pc' := 17) i165_16 rfl rfl <| ok_getfi (v := 0) (pc' := 20) i165_17 o165 gi9_63 (ShModel_k0 hS448) rd_eq rfl <| ok_kz1 (pc1 := 27) (pc2 := 23) i165_20 (by decide) rfl rfl <| ok_iconst (pc' := 28) i165_27 rfl <| ok_iretz i165_28 rt165 (by decide) <| ?_
  refine kt_v (pc' := 24) rfl <| ok_kz0 (pc1 := 49) (pc2 := 27) i278_24 (by decide) rfl rfl <| ok_aloadn (pc' := 28) i278_27 rfl rfl <| ok_aloadn (pc' := 29) i278_28 rfl rfl <| ok_getfr (r := (448 + 7)) (pc' := 32) i278_29 o278 gr9_28 (ShModel_k0 hS448) (ShModel_r11 hS448) rfl <| ok_iloadn (pc' := 33) i278_32 rfl rfl <| ok_baload (v := 0) (pc' := 34) i278_33 (ShModel_k7 hS448) (by decide) (ShModel_l7 hS448) (by decide) (rd_na (by omega) hu2) rfl <| ok_kz0 (pc1 := 41) (pc2 := 37) i278_34 (by decide) rfl rfl <| ?_
  refine ok_iconst (pc' := 38) i278_37 rfl <| ok_goto (pc' := 42) i278_38 rfl <| ok_iconst (pc' := 43) i278_42 rfl <| ok_cc i278_43 rfl (cl_v o278 m9_70 na165 rfl rfl (bt rfl) (bt rfl) rfl (by rw [ShModel_k0 hS448, o165])) ln165 (pd165 (aR 448) (aI 1) (aI 2)) <| ok_aloadn (pc' := 1) i165_0 rfl rfl <| ok_getfi (v := 0) (pc' := 4) i165_1 o165 gi9_63 (ShModel_k0 hS448) rd_eq rfl <| ok_kz0 (pc1 := 16) (pc2 := 7) i165_4 (by decide) rfl rfl <| ok_iloadn (pc' := 8) i165_7 rfl rfl <| ?_
  refine ok_kz0 (pc1 := 16) (pc2 := 11) i165_8 (by decide) rfl rfl <| ok_aloadn (pc' := 12) i165_11 rfl rfl <| ok_iloadn (pc' := 13) i165_12 rfl rfl <| ok_putfj (kk := 0) (pc' := 16) i165_13 o165 pi165_63 (ShModel_k0 hS448) rfl rfl <| ok_aloadn (pc' := 17) i165_16 rfl rfl <| ok_getfi (v := 2) (pc' := 20) i165_17 o165 gi9_63 (ShModel_k0 hS448) rd_eq rfl <| ok_kz0 (pc1 := 27) (pc2 := 23) i165_20 (by decide) rfl rfl <| ok_iconst (pc' := 24) i165_23 rfl <| ?_
  refine ok_goto (pc' := 28) i165_24 rfl <| ok_iretz i165_28 rt165 (by decide) <| kt_v (pc' := 46) rfl <| ok_kz0 (pc1 := 51) (pc2 := 49) i278_46 (by decide) rfl rfl <| ok_iconst (pc' := 50) i278_49 rfl <| ok_ireti i278_50 rt278 <| kt_v (pc' := 3296) rfl <| ok_istore (pc' := 3298) (ls' := [aR 1, aR 100, aR 448, aR 464, aR 465, aI i, aI 2, aI 0, w8]) i0_3296 (bt rfl) rfl rfl <| ?_
  refine ok_aloadn (pc' := 3299) i0_3298 rfl rfl <| ok_cc i0_3299 rfl (cl_v o0 m13_188 na157 rfl rfl (bt rfl) (bt rfl) rfl (by rw [ShModel_k0 hS448, o157])) ln157 (pd157 (aR 448)) <| ok_aloadn (pc' := 1) i157_0 rfl rfl <| ok_getfi (v := 2) (pc' := 4) i157_1 o157 gi9_63 (ShModel_k0 hS448) rd_eq rfl <| ok_ireti i157_4 rt157 <| kt_v (pc' := 3302) rfl <| ok_iload (pc' := 3304) i0_3302 rfl rfl <| ok_kc1 (pc1 := 3309) (pc2 := 3307) i0_3304 (by decide) rfl rfl <| ?_
  refine ok_iload (pc' := 3311) i0_3309 rfl rfl <| ok_kz1 (pc1 := 3326) (pc2 := 3314) i0_3311 (by decide) rfl rfl <| ok_goto (pc' := 3329) i0_3326 rfl <| ?_
  exact K _ _ _ _ _ _ hD (by omega) (Inv_mono (Inv_same hI (Same.thr (Same.thr Same.rfl))) (by omega))
theorem c56_1_0 {L n : Nat} {g : AG} {M : AM} {xs : Nat → Int32} {b i : Int} {w6 w7 w8 : AV} {Q : AO → AG → AM → Prop} (hD : HD L n g) (hI : Inv xs b M) (hi : 0 ≤ i ∧ i + 6 ≤ L) (hb : 0 ≤ b ∧ b ≤ 900000) (hl : M 100 6 = 1) (hc1 : M 1 (i + 1) = 0) (hu1 : M 445 0 = 0) (K : KK L n i b xs Q) :
    Ok 10 0 3273 [aR 1, aR 100, aR 448, aR 464, aR 465, aI i, w6, w7, w8] [] g M Q := by
  have hI0 := hI
  obtain ⟨hA, hld, hl01, q, hc, ⟨nx, sz, hH, hsz⟩, hS⟩ := hI0
  have hH0 := hH
  obtain ⟨⟨hn1, hn0⟩, ⟨hz2, hz0⟩, h10, hHj⟩ := hH0
  obtain ⟨hw0, ⟨bu, by_, hb1, hb13, hbu, hZ, hU⟩, he3, he4, he5, hId, tx, hT, hUt, htl, htr⟩ := hA
  have htz := hT.2.1
  obtain ⟨s, hP, hRB, hO, hV, hQ, h40⟩ := hc hl
  have ys3 := V_3 hV
  have ys4 := V_4 hV
  have yq0 := Q_0 hQ
  have yq1 := Q_1 hQ
  obtain ⟨v1, hv1⟩ : ∃ u9 : Int, M 1 (i + 1) = u9 := ⟨_, rfl⟩
  have hr1 : -2147483648 ≤ v1 ∧ v1 < 2147483648 := hv1 ▸ scr_rg hw0 (i + 1)
  have hS1 := HD_s hD
  have hS100 := HD_y hD
  have hS448 := HD_o hD
  have hS464 := HD_u hD
  have hS465 := HD_ud hD
  have hu2 : M 455 0 = 0 := (hS 0 (by decide)).1.trans hu1
  refine ok_aloadn (pc' := 3274) i0_3273 rfl rfl <| ok_aloadn (pc' := 3275) i0_3274 rfl rfl <| ok_iload (pc' := 3277) i0_3275 rfl rfl <| ok_iconst (pc' := 3278) i0_3277 rfl <| ok_iadd (v := (i + 1)) (pc' := 3279) i0_3278 rfl rfl <| ok_iaload (v := 0) (pc' := 3280) i0_3279 (ShScr_k0 hS1) (by decide) (ShScr_l0 hS1) (by omega) hc1 rfl <| ok_aloadn (pc' := 3281) i0_3280 rfl rfl <| ok_cc i0_3281 rfl (cl_s o0 m13_364 na328 rfl rfl (bt rfl) (bt rfl) rfl) ln328 (pd328 (aR 100) (aI 0) (aR 464)) <| ?_
  refine ok_aloadn (pc' := 1) i328_0 rfl rfl <| ok_iconst (pc' := 2) i328_1 rfl <| ok_aloadn (pc' := 3) i328_2 rfl rfl <| ok_iloadn (pc' := 4) i328_3 rfl rfl <| ok_cc i328_4 rfl (cl_v o328 m13_170 na155 rfl rfl (bt rfl) (bt rfl) rfl (by rw [ShYard_k0 hS100, o155])) ln155 (pd155 (aR 100) (aI 0)) <| ok_iloadn (pc' := 1) i155_0 rfl rfl <| ok_cc i155_1 rfl (cl_s o155 m0_352 na154 rfl rfl (bt rfl) (bt rfl) rfl) ln154 (pd154 (aI 0)) <| ok_iloadn (pc' := 1) i154_0 rfl rfl <| ?_
  refine ok_kz0 (pc1 := 9) (pc2 := 4) i154_1 (by decide) rfl rfl <| ok_iloadn (pc' := 5) i154_4 rfl rfl <| ok_iconst (pc' := 6) i154_5 rfl <| ok_kc1 (pc1 := 20) (pc2 := 9) i154_6 (by decide) rfl rfl <| ok_vret i154_20 rt154 <| kt_0 (pc' := 4) rfl <| ok_aloadn (pc' := 5) i155_4 rfl rfl <| ok_getfr (r := (100 + 345)) (pc' := 8) i155_5 o155 gr0_79 (ShYard_k0 hS100) (ShYard_r14 hS100) rfl <| ?_
  refine ok_iloadn (pc' := 9) i155_8 rfl rfl <| ok_baload (v := 0) (pc' := 10) i155_9 (ShYard_k345 hS100) (by decide) (ShYard_l345 hS100) (by decide) hu1 rfl <| ok_kz0 (pc1 := 24) (pc2 := 13) i155_10 (by decide) rfl rfl <| ok_throw th155_13 (bt rfl) <| kt_h hn328 hf328_4_12 hr328_15 <| kt_v (pc' := 3284) rfl <| ?_
  refine ok_al hD (fun g hD => ?_)
  have hS448 := HD_o hD
  have hS1 := HD_s hD
  have hS464 := HD_u hD
  have hS465 := HD_ud hD
  refine ok_istore (pc' := 3286) (ls' := [aR 1, aR 100, aR 448, aR 464, aR 465, aI i, aI 2, w7, w8]) i0_3284 (bt rfl) rfl rfl <| ok_aloadn (pc' := 3287) i0_3286 rfl rfl <| ok_aloadn (pc' := 3288) i0_3287 rfl rfl <| ok_iload (pc' := 3290) i0_3288 rfl rfl <| ok_iconst (pc' := 3291) i0_3290 rfl <| ok_iadd (v := (i + 1)) (pc' := 3292) i0_3291 rfl rfl <| ok_iaload (v := 0) (pc' := 3293) i0_3292 (ShScr_k0 hS1) (by decide) (ShScr_l0 hS1) (by omega) hc1 rfl <| ok_cc i0_3293 rfl (cl_v o0 m13_366 na278 rfl rfl (bt rfl) (bt rfl) rfl (by rw [ShModel_k0 hS448, o278])) ln278 (pd278 (aR 448) (aI 0)) <| ?_
  refine ok_aloadn (pc' := 1) i278_0 rfl rfl <| ok_iconst (pc' := 2) i278_1 rfl <| ok_putfj (kk := 0) (pc' := 5) i278_2 o278 pi278_63 (ShModel_k0 hS448) rfl rfl <| ok_aloadn (pc' := 6) i278_5 rfl rfl <| ok_iloadn (pc' := 7) i278_6 rfl rfl <| ok_iconst (pc' := 8) i278_7 rfl <| ok_iconst (pc' := 9) i278_8 rfl <| ok_cc i278_9 rfl (cl_s o278 m9_140 na164 rfl rfl (bt rfl) (bt rfl) rfl) ln164 (pd164 (aI 0) (aI 0) (aI 1)) <| ?_
  refine ok_iloadn (pc' := 1) i164_0 rfl rfl <| ok_iloadn (pc' := 2) i164_1 rfl rfl <| ok_kc0 (pc1 := 14) (pc2 := 5) i164_2 (by decide) rfl rfl <| ok_iloadn (pc' := 6) i164_5 rfl rfl <| ok_iloadn (pc' := 7) i164_6 rfl rfl <| ok_kc0 (pc1 := 14) (pc2 := 10) i164_7 (by decide) rfl rfl <| ok_iconst (pc' := 11) i164_10 rfl <| ok_goto (pc' := 15) i164_11 rfl <| ?_
  refine ok_iretz i164_15 rt164 (by decide) <| kt_v (pc' := 12) rfl <| ok_kz1 (pc1 := 19) (pc2 := 15) i278_12 (by decide) rfl rfl <| ok_iconst (pc' := 20) i278_19 rfl <| ok_iconst (pc' := 21) i278_20 rfl <| ok_cc i278_21 rfl (cl_v o278 m9_70 na165 rfl rfl (bt rfl) (bt rfl) rfl (by rw [ShModel_k0 hS448, o165])) ln165 (pd165 (aR 448) (aI 0) (aI 1)) <| ok_aloadn (pc' := 1) i165_0 rfl rfl <| ok_getfi (v := 0) (pc' := 4) i165_1 o165 gi9_63 (ShModel_k0 hS448) rd_eq rfl <| ?_
  refine ok_kz0 (pc1 := 16) (pc2 := 7) i165_4 (by decide) rfl rfl <| ok_iloadn (pc' := 8) i165_7 rfl rfl <| ok_kz1 (pc1 := 16) (pc2 := 11) i165_8 (by decide) rfl rfl <| ok_aloadn (pc' := 17) i165_16 rfl rfl <| ok_getfi (v := 0) (pc' := 20) i165_17 o165 gi9_63 (ShModel_k0 hS448) rd_eq rfl <| ok_kz1 (pc1 := 27) (pc2 := 23) i165_20 (by decide) rfl rfl <| ok_iconst (pc' := 28) i165_27 rfl <| ok_iretz i165_28 rt165 (by decide) <| ?_
  refine kt_v (pc' := 24) rfl <| ok_kz0 (pc1 := 49) (pc2 := 27) i278_24 (by decide) rfl rfl <| ok_aloadn (pc' := 28) i278_27 rfl rfl <| ok_aloadn (pc' := 29) i278_28 rfl rfl <| ok_getfr (r := (448 + 7)) (pc' := 32) i278_29 o278 gr9_28 (ShModel_k0 hS448) (ShModel_r11 hS448) rfl <| ok_iloadn (pc' := 33) i278_32 rfl rfl <| ok_baload (v := 0) (pc' := 34) i278_33 (ShModel_k7 hS448) (by decide) (ShModel_l7 hS448) (by decide) (rd_na (by omega) hu2) rfl <| ok_kz0 (pc1 := 41) (pc2 := 37) i278_34 (by decide) rfl rfl <| ?_
  refine ok_iconst (pc' := 38) i278_37 rfl <| ok_goto (pc' := 42) i278_38 rfl <| ok_iconst (pc' := 43) i278_42 rfl <| ok_cc i278_43 rfl (cl_v o278 m9_70 na165 rfl rfl (bt rfl) (bt rfl) rfl (by rw [ShModel_k0 hS448, o165])) ln165 (pd165 (aR 448) (aI 1) (aI 2)) <| ok_aloadn (pc' := 1) i165_0 rfl rfl <| ok_getfi (v := 0) (pc' := 4) i165_1 o165 gi9_63 (ShModel_k0 hS448) rd_eq rfl <| ok_kz0 (pc1 := 16) (pc2 := 7) i165_4 (by decide) rfl rfl <| ok_iloadn (pc' := 8) i165_7 rfl rfl <| ?_
  refine ok_kz0 (pc1 := 16) (pc2 := 11) i165_8 (by decide) rfl rfl <| ok_aloadn (pc' := 12) i165_11 rfl rfl <| ok_iloadn (pc' := 13) i165_12 rfl rfl <| ok_putfj (kk := 0) (pc' := 16) i165_13 o165 pi165_63 (ShModel_k0 hS448) rfl rfl <| ok_aloadn (pc' := 17) i165_16 rfl rfl <| ok_getfi (v := 2) (pc' := 20) i165_17 o165 gi9_63 (ShModel_k0 hS448) rd_eq rfl <| ok_kz0 (pc1 := 27) (pc2 := 23) i165_20 (by decide) rfl rfl <| ok_iconst (pc' := 24) i165_23 rfl <| ?_
  refine ok_goto (pc' := 28) i165_24 rfl <| ok_iretz i165_28 rt165 (by decide) <| kt_v (pc' := 46) rfl <| ok_kz0 (pc1 := 51) (pc2 := 49) i278_46 (by decide) rfl rfl <| ok_iconst (pc' := 50) i278_49 rfl <| ok_ireti i278_50 rt278 <| kt_v (pc' := 3296) rfl <| ok_istore (pc' := 3298) (ls' := [aR 1, aR 100, aR 448, aR 464, aR 465, aI i, aI 2, aI 0, w8]) i0_3296 (bt rfl) rfl rfl <| ?_
  refine ok_aloadn (pc' := 3299) i0_3298 rfl rfl <| ok_cc i0_3299 rfl (cl_v o0 m13_188 na157 rfl rfl (bt rfl) (bt rfl) rfl (by rw [ShModel_k0 hS448, o157])) ln157 (pd157 (aR 448)) <| ok_aloadn (pc' := 1) i157_0 rfl rfl <| ok_getfi (v := 2) (pc' := 4) i157_1 o157 gi9_63 (ShModel_k0 hS448) rd_eq rfl <| ok_ireti i157_4 rt157 <| kt_v (pc' := 3302) rfl <| ok_iload (pc' := 3304) i0_3302 rfl rfl <| ok_kc1 (pc1 := 3309) (pc2 := 3307) i0_3304 (by decide) rfl rfl <| ?_
  refine ok_iload (pc' := 3311) i0_3309 rfl rfl <| ok_kz1 (pc1 := 3326) (pc2 := 3314) i0_3311 (by decide) rfl rfl <| ok_goto (pc' := 3329) i0_3326 rfl <| ?_
  exact K _ _ _ _ _ _ hD (by omega) (Inv_mono (Inv_same hI (Same.thr (Same.thr Same.rfl))) (by omega))
theorem c56_1_0u {L n : Nat} {g : AG} {M : AM} {xs : Nat → Int32} {b i : Int} {w6 w7 w8 : AV} {Q : AO → AG → AM → Prop} (hD : HD L n g) (hI : Inv xs b M) (hi : 0 ≤ i ∧ i + 6 ≤ L) (hb : 0 ≤ b ∧ b ≤ 900000) (hl : M 100 6 = 1) (hc1 : M 1 (i + 1) = 0) (hu1 : M 445 0 = 1) (K : KK L n i b xs Q) :
    Ok 10 0 3273 [aR 1, aR 100, aR 448, aR 464, aR 465, aI i, w6, w7, w8] [] g M Q := by
  have hI0 := hI
  obtain ⟨hA, hld, hl01, q, hc, ⟨nx, sz, hH, hsz⟩, hS⟩ := hI0
  have hH0 := hH
  obtain ⟨⟨hn1, hn0⟩, ⟨hz2, hz0⟩, h10, hHj⟩ := hH0
  obtain ⟨hw0, ⟨bu, by_, hb1, hb13, hbu, hZ, hU⟩, he3, he4, he5, hId, tx, hT, hUt, htl, htr⟩ := hA
  have htz := hT.2.1
  obtain ⟨s, hP, hRB, hO, hV, hQ, h40⟩ := hc hl
  have ys3 := V_3 hV
  have ys4 := V_4 hV
  have yq0 := Q_0 hQ
  have yq1 := Q_1 hQ
  obtain ⟨v1, hv1⟩ : ∃ u9 : Int, M 1 (i + 1) = u9 := ⟨_, rfl⟩
  have hr1 : -2147483648 ≤ v1 ∧ v1 < 2147483648 := hv1 ▸ scr_rg hw0 (i + 1)
  have hS1 := HD_s hD
  have hS100 := HD_y hD
  have hS149 := HD_b hD
  have hS202 := HD_h hD
  have hS448 := HD_o hD
  have hS464 := HD_u hD
  have hu2 : M 455 0 = 1 := (hS 0 (by decide)).1.trans hu1
  obtain ⟨s1, hRs, hKs, hVs, h4s⟩ : ∃ s1 : Int → Int, RepS M (397 + 24 * 0) s1 ∧ KeptAt M (9 + 0) s1 ∧ Val b q s1 ∧ s1 3 ≤ 40 := slot_got (w := 0) hS (by decide) hu1
  refine ok_aloadn (pc' := 3274) i0_3273 rfl rfl <| ok_aloadn (pc' := 3275) i0_3274 rfl rfl <| ok_iload (pc' := 3277) i0_3275 rfl rfl <| ok_iconst (pc' := 3278) i0_3277 rfl <| ok_iadd (v := (i + 1)) (pc' := 3279) i0_3278 rfl rfl <| ok_iaload (v := 0) (pc' := 3280) i0_3279 (ShScr_k0 hS1) (by decide) (ShScr_l0 hS1) (by omega) hc1 rfl <| ok_aloadn (pc' := 3281) i0_3280 rfl rfl <| ok_cc i0_3281 rfl (cl_s o0 m13_364 na328 rfl rfl (bt rfl) (bt rfl) rfl) ln328 (pd328 (aR 100) (aI 0) (aR 464)) <| ?_
  refine ok_aloadn (pc' := 1) i328_0 rfl rfl <| ok_iconst (pc' := 2) i328_1 rfl <| ok_aloadn (pc' := 3) i328_2 rfl rfl <| ok_iloadn (pc' := 4) i328_3 rfl rfl <| ok_cc i328_4 rfl (cl_v o328 m13_170 na155 rfl rfl (bt rfl) (bt rfl) rfl (by rw [ShYard_k0 hS100, o155])) ln155 (pd155 (aR 100) (aI 0)) <| ok_iloadn (pc' := 1) i155_0 rfl rfl <| ok_cc i155_1 rfl (cl_s o155 m0_352 na154 rfl rfl (bt rfl) (bt rfl) rfl) ln154 (pd154 (aI 0)) <| ok_iloadn (pc' := 1) i154_0 rfl rfl <| ?_
  refine ok_kz0 (pc1 := 9) (pc2 := 4) i154_1 (by decide) rfl rfl <| ok_iloadn (pc' := 5) i154_4 rfl rfl <| ok_iconst (pc' := 6) i154_5 rfl <| ok_kc1 (pc1 := 20) (pc2 := 9) i154_6 (by decide) rfl rfl <| ok_vret i154_20 rt154 <| kt_0 (pc' := 4) rfl <| ok_aloadn (pc' := 5) i155_4 rfl rfl <| ok_getfr (r := (100 + 345)) (pc' := 8) i155_5 o155 gr0_79 (ShYard_k0 hS100) (ShYard_r14 hS100) rfl <| ?_
  refine ok_iloadn (pc' := 9) i155_8 rfl rfl <| ok_baload (v := 1) (pc' := 10) i155_9 (ShYard_k345 hS100) (by decide) (ShYard_l345 hS100) (by decide) hu1 rfl <| ok_kz1 (pc1 := 24) (pc2 := 13) i155_10 (by decide) rfl rfl <| ok_aloadn (pc' := 25) i155_24 rfl rfl <| ok_getfr (r := 149) (pc' := 28) i155_25 o155 gr0_39 (ShYard_k0 hS100) (ShYard_r8 hS100) rfl <| ok_aloadn (pc' := 29) i155_28 rfl rfl <| ok_getfr (r := (100 + 296)) (pc' := 32) i155_29 o155 gr0_75 (ShYard_k0 hS100) (ShYard_r13 hS100) rfl <| ok_iloadn (pc' := 33) i155_32 rfl rfl <| ?_
  refine ok_aaload (r := (397 + 24 * 0)) (pc' := 34) i155_33 (ShYard_k296 hS100) (by decide) (ShYard_l296 hS100) (by decide) (ShYard_e296_0 hS100) rfl <| ?_
  refine ok_cn0 (pc' := 37) (d0 := 0) i155_34 rfl (cl_v o155 m0_355 na17 rfl rfl (bt rfl) (bt rfl) rfl (by rw [ShState_k0 hS149, o17])) ln17 (pd17 (aR 149) (aR (397 + 24 * 0))) (by omega) (t17 (B := 149) (A := 397 + 24 * 0) hS149 (HD_sl hD 0 (by omega)) hRs hVs hQ (by omega)) rfl (fun M501 p502 => ?_)
  refine ok_aloadn (pc' := 38) i155_37 rfl rfl <| ok_getfr (r := 202) (pc' := 41) i155_38 o155 gr0_71 (ShYard_k0 hS100) (ShYard_r12 hS100) rfl <| ok_iconst (pc' := 42) i155_41 rfl <| ok_putfj (kk := 2) (pc' := 45) i155_42 o155 pi155_343 (ShHist_k0 hS202) rfl rfl <| ok_aloadn (pc' := 46) i155_45 rfl rfl <| ok_getfr (r := 149) (pc' := 49) i155_46 o155 gr0_39 (ShYard_k0 hS100) (ShYard_r8 hS100) rfl <| ok_getfi (v := (s1 0)) (pc' := 52) i155_49 o155 gi0_200 (ShState_k0 hS149) (rd_na (by omega) (RepS_f0 p502.1)) rfl <| ok_ireti i155_52 rt155 <| ?_
  refine kt_v (pc' := 7) rfl <| ok_i2l (v := (wr (s1 0))) (pc' := 8) i328_7 rfl rfl <| ok_lastore (pc' := 9) i328_8 (ShOut_k0 hS464) (ShOut_l0 hS464) (by decide) rfl <| ok_goto (pc' := 18) i328_9 rfl <| ok_iconst (pc' := 19) i328_18 rfl <| ok_ireti i328_19 rt328 <| kt_v (pc' := 3284) rfl <| ok_istore (pc' := 3286) (ls' := [aR 1, aR 100, aR 448, aR 464, aR 465, aI i, aI 0, w7, w8]) i0_3284 (bt rfl) rfl rfl <| ?_
  refine ok_aloadn (pc' := 3287) i0_3286 rfl rfl <| ok_aloadn (pc' := 3288) i0_3287 rfl rfl <| ok_iload (pc' := 3290) i0_3288 rfl rfl <| ok_iconst (pc' := 3291) i0_3290 rfl <| ok_iadd (v := (i + 1)) (pc' := 3292) i0_3291 rfl rfl <| ok_iaload (v := 0) (pc' := 3293) i0_3292 (ShScr_k0 hS1) (by decide) (ShScr_l0 hS1) (by omega) (rd_na (by omega) (rd_na (by omega) (Eq.trans (congrFun (p502.2 1 (by omega)) (i + 1)) hc1))) rfl <| ok_cc i0_3293 rfl (cl_v o0 m13_366 na278 rfl rfl (bt rfl) (bt rfl) rfl (by rw [ShModel_k0 hS448, o278])) ln278 (pd278 (aR 448) (aI 0)) <| ok_aloadn (pc' := 1) i278_0 rfl rfl <| ?_
  refine ok_iconst (pc' := 2) i278_1 rfl <| ok_putfj (kk := 0) (pc' := 5) i278_2 o278 pi278_63 (ShModel_k0 hS448) rfl rfl <| ok_aloadn (pc' := 6) i278_5 rfl rfl <| ok_iloadn (pc' := 7) i278_6 rfl rfl <| ok_iconst (pc' := 8) i278_7 rfl <| ok_iconst (pc' := 9) i278_8 rfl <| ok_cc i278_9 rfl (cl_s o278 m9_140 na164 rfl rfl (bt rfl) (bt rfl) rfl) ln164 (pd164 (aI 0) (aI 0) (aI 1)) <| ok_iloadn (pc' := 1) i164_0 rfl rfl <| ?_
  refine ok_iloadn (pc' := 2) i164_1 rfl rfl <| ok_kc0 (pc1 := 14) (pc2 := 5) i164_2 (by decide) rfl rfl <| ok_iloadn (pc' := 6) i164_5 rfl rfl <| ok_iloadn (pc' := 7) i164_6 rfl rfl <| ok_kc0 (pc1 := 14) (pc2 := 10) i164_7 (by decide) rfl rfl <| ok_iconst (pc' := 11) i164_10 rfl <| ok_goto (pc' := 15) i164_11 rfl <| ok_iretz i164_15 rt164 (by decide) <| ?_
  refine kt_v (pc' := 12) rfl <| ok_kz1 (pc1 := 19) (pc2 := 15) i278_12 (by decide) rfl rfl <| ok_iconst (pc' := 20) i278_19 rfl <| ok_iconst (pc' := 21) i278_20 rfl <| ok_cc i278_21 rfl (cl_v o278 m9_70 na165 rfl rfl (bt rfl) (bt rfl) rfl (by rw [ShModel_k0 hS448, o165])) ln165 (pd165 (aR 448) (aI 0) (aI 1)) <| ok_aloadn (pc' := 1) i165_0 rfl rfl <| ok_getfi (v := 0) (pc' := 4) i165_1 o165 gi9_63 (ShModel_k0 hS448) rd_eq rfl <| ok_kz0 (pc1 := 16) (pc2 := 7) i165_4 (by decide) rfl rfl <| ?_
  refine ok_iloadn (pc' := 8) i165_7 rfl rfl <| ok_kz1 (pc1 := 16) (pc2 := 11) i165_8 (by decide) rfl rfl <| ok_aloadn (pc' := 17) i165_16 rfl rfl <| ok_getfi (v := 0) (pc' := 20) i165_17 o165 gi9_63 (ShModel_k0 hS448) rd_eq rfl <| ok_kz1 (pc1 := 27) (pc2 := 23) i165_20 (by decide) rfl rfl <| ok_iconst (pc' := 28) i165_27 rfl <| ok_iretz i165_28 rt165 (by decide) <| kt_v (pc' := 24) rfl <| ?_
  refine ok_kz0 (pc1 := 49) (pc2 := 27) i278_24 (by decide) rfl rfl <| ok_aloadn (pc' := 28) i278_27 rfl rfl <| ok_aloadn (pc' := 29) i278_28 rfl rfl <| ok_getfr (r := (448 + 7)) (pc' := 32) i278_29 o278 gr9_28 (ShModel_k0 hS448) (ShModel_r11 hS448) rfl <| ok_iloadn (pc' := 33) i278_32 rfl rfl <| ?_
  have hCM501_448 : RepO M501 448 q s := RepO.fr hO ⟨((congrFun (p502.2 448 (by omega)) 2).trans (by rfl)), ((congrFun (p502.2 448 (by omega)) 3).trans (by rfl))⟩ (fun a h1 h2 => (p502.2 a (by omega)).trans rfl)
  refine ok_baload (v := 1) (pc' := 34) i278_33 (ShModel_k7 hS448) (by decide) (ShModel_l7 hS448) (by decide) (rd_na (by omega) (rd_na (by omega) (rd_na (by omega) (Eq.trans (congrFun (p502.2 455 (by omega)) 0) hu2)))) rfl <| ok_kz1 (pc1 := 41) (pc2 := 37) i278_34 (by decide) rfl rfl <| ok_iconst (pc' := 42) i278_41 rfl <| ok_iconst (pc' := 43) i278_42 rfl <| ok_cc i278_43 rfl (cl_v o278 m9_70 na165 rfl rfl (bt rfl) (bt rfl) rfl (by rw [ShModel_k0 hS448, o165])) ln165 (pd165 (aR 448) (aI 0) (aI 2)) <| ok_aloadn (pc' := 1) i165_0 rfl rfl <| ok_getfi (v := 0) (pc' := 4) i165_1 o165 gi9_63 (ShModel_k0 hS448) rd_eq rfl <| ok_kz0 (pc1 := 16) (pc2 := 7) i165_4 (by decide) rfl rfl <| ?_
  refine ok_iloadn (pc' := 8) i165_7 rfl rfl <| ok_kz1 (pc1 := 16) (pc2 := 11) i165_8 (by decide) rfl rfl <| ok_aloadn (pc' := 17) i165_16 rfl rfl <| ok_getfi (v := 0) (pc' := 20) i165_17 o165 gi9_63 (ShModel_k0 hS448) rd_eq rfl <| ok_kz1 (pc1 := 27) (pc2 := 23) i165_20 (by decide) rfl rfl <| ok_iconst (pc' := 28) i165_27 rfl <| ok_iretz i165_28 rt165 (by decide) <| kt_v (pc' := 46) rfl <| ?_
  refine ok_kz1 (pc1 := 51) (pc2 := 49) i278_46 (by decide) rfl rfl <| ok_aloadn (pc' := 52) i278_51 rfl rfl <| ok_bipush (v := 9) (pc' := 54) i278_52 rfl rfl <| ok_iloadn (pc' := 55) i278_54 rfl rfl <| ok_iadd (v := 9) (pc' := 56) i278_55 rfl rfl <| ?_
  refine ok_cn0 (pc' := 59) (d0 := 0) i278_56 rfl (cl_v o278 m9_323 na242 rfl rfl (bt rfl) (bt rfl) rfl (by rw [ShModel_k0 hS448, o242])) ln242 (pd242 (aR 448) (aI 9)) (by omega) (t242 (x1 := 9) hS448 (by omega)) rfl (fun M503 p504 => ?_)
  refine ok_aloadn (pc' := 60) i278_59 rfl rfl <| ok_iconst (pc' := 61) i278_60 rfl <| ok_putfj (kk := 10) (pc' := 64) i278_61 o278 pi278_213 (ShModel_k0 hS448) rfl rfl <| ok_aloadn (pc' := 65) i278_64 rfl rfl <| ok_getfr (r := (448 + 5)) (pc' := 68) i278_65 o278 gr9_22 (ShModel_k0 hS448) (ShModel_r8 hS448) rfl <| ok_iconst (pc' := 69) i278_68 rfl <| ok_iaload (v := (s1 0)) (pc' := 70) i278_69 (ShModel_k5 hS448) (by decide) (ShModel_l5 hS448) (by decide) (rd_na (by omega) (fetched_0 (k := 9 + 0) (x := 9) hKs (by decide) p504 (fun y => by rw [up2_na (by omega), up2_na (by omega), up2_na (by omega), p502.2 454 (by omega)]))) rfl <| ok_ireti i278_70 rt278 <| ?_
  refine kt_v (pc' := 3296) rfl <| ok_istore (pc' := 3298) (ls' := [aR 1, aR 100, aR 448, aR 464, aR 465, aI i, aI 0, aI (s1 0), w8]) i0_3296 (bt rfl) rfl rfl <| ok_aloadn (pc' := 3299) i0_3298 rfl rfl <| ok_cc i0_3299 rfl (cl_v o0 m13_188 na157 rfl rfl (bt rfl) (bt rfl) rfl (by rw [ShModel_k0 hS448, o157])) ln157 (pd157 (aR 448)) <| ok_aloadn (pc' := 1) i157_0 rfl rfl <| ok_getfi (v := 0) (pc' := 4) i157_1 o157 gi9_63 (ShModel_k0 hS448) (rd_ni (by decide) (Eq.trans (congrFun (upM_fr p504 (a := 448) (by omega)) 0) rd_eq)) rfl <| ok_ireti i157_4 rt157 <| kt_v (pc' := 3302) rfl <| ?_
  refine ok_iload (pc' := 3304) i0_3302 rfl rfl <| ok_kc1 (pc1 := 3309) (pc2 := 3307) i0_3304 (by decide) rfl rfl <| ok_iload (pc' := 3311) i0_3309 rfl rfl <| ok_kz0 (pc1 := 3326) (pc2 := 3314) i0_3311 (by decide) rfl rfl <| ok_aloadn (pc' := 3315) i0_3314 rfl rfl <| ok_iconst (pc' := 3316) i0_3315 rfl <| ok_laload (v := (wr (s1 0))) (pc' := 3317) i0_3316 (ShOut_k0 hS464) (ShOut_l0 hS464) (by decide) (rd_na (by omega) (Eq.trans (congrFun (upM_fr p504 (a := 464) (by omega)) 0) (rd_na (by omega) rd_eq))) rfl <| ok_iload (pc' := 3319) i0_3317 rfl rfl <| ?_
  refine ok_i2l (v := (wr (s1 0))) (pc' := 3320) i0_3319 rfl rfl <| ok_lcmp0 (pc' := 3321) i0_3320 rfl <| ok_kz1 (pc1 := 3326) (pc2 := 3324) i0_3321 (by decide) rfl rfl <| ok_goto (pc' := 3329) i0_3326 rfl <| ?_
  exact K _ _ _ _ _ _ hD (by omega) (Inv_mono (Inv_restore (k := 9 + 0) (x := 9) hI hl ⟨hP, hRB, hO, hV, hQ, h40⟩ hH hS hKs hVs h4s p502.1 p502.2 (by decide) rfl p504 rfl) (by omega))
theorem c55_1_1 {L n : Nat} {g : AG} {M : AM} {xs : Nat → Int32} {b i : Int} {w6 w7 w8 : AV} {Q : AO → AG → AM → Prop} (hD : HD L n g) (hI : Inv xs b M) (hi : 0 ≤ i ∧ i + 6 ≤ L) (hb : 0 ≤ b ∧ b ≤ 900000) (hl : M 100 6 = 1) (hc1 : M 1 (i + 1) = 1) (K : KK L n i b xs Q) :
    Ok 10 0 3217 [aR 1, aR 100, aR 448, aR 464, aR 465, aI i, w6, w7, w8] [] g M Q := by
  have hI0 := hI
  obtain ⟨hA, hld, hl01, q, hc, ⟨nx, sz, hH, hsz⟩, hS⟩ := hI0
  have hH0 := hH
  obtain ⟨⟨hn1, hn0⟩, ⟨hz2, hz0⟩, h10, hHj⟩ := hH0
  obtain ⟨hw0, ⟨bu, by_, hb1, hb13, hbu, hZ, hU⟩, he3, he4, he5, hId, tx, hT, hUt, htl, htr⟩ := hA
  have htz := hT.2.1
  obtain ⟨s, hP, hRB, hO, hV, hQ, h40⟩ := hc hl
  have ys3 := V_3 hV
  have ys4 := V_4 hV
  have yq0 := Q_0 hQ
  have yq1 := Q_1 hQ
  obtain ⟨v1, hv1⟩ : ∃ u9 : Int, M 1 (i + 1) = u9 := ⟨_, rfl⟩
  have hr1 : -2147483648 ≤ v1 ∧ v1 < 2147483648 := hv1 ▸ scr_rg hw0 (i + 1)
  have hS1 := HD_s hD
  have hS100 := HD_y hD
  have hS149 := HD_b hD
  have hS448 := HD_o hD
  have hS464 := HD_u hD
  refine ok_aloadn (pc' := 3218) i0_3217 rfl rfl <| ok_aloadn (pc' := 3219) i0_3218 rfl rfl <| ok_iload (pc' := 3221) i0_3219 rfl rfl <| ok_iconst (pc' := 3222) i0_3221 rfl <| ok_iadd (v := (i + 1)) (pc' := 3223) i0_3222 rfl rfl <| ok_iaload (v := 1) (pc' := 3224) i0_3223 (ShScr_k0 hS1) (by decide) (ShScr_l0 hS1) (by omega) hc1 rfl <| ok_aloadn (pc' := 3225) i0_3224 rfl rfl <| ok_cc i0_3225 rfl (cl_s o0 m13_361 na327 rfl rfl (bt rfl) (bt rfl) rfl) ln327 (pd327 (aR 100) (aI 1) (aR 464)) <| ?_
  refine ok_aloadn (pc' := 1) i327_0 rfl rfl <| ok_iconst (pc' := 2) i327_1 rfl <| ok_aloadn (pc' := 3) i327_2 rfl rfl <| ok_iloadn (pc' := 4) i327_3 rfl rfl <| ok_cc i327_4 rfl (cl_v o327 m13_167 na153 rfl rfl (bt rfl) (bt rfl) rfl (by rw [ShYard_k0 hS100, o153])) ln153 (pd153 (aR 100) (aI 1)) <| ok_aloadn (pc' := 1) i153_0 rfl rfl <| ok_cc i153_1 rfl (cl_v o153 m0_132 na99 rfl rfl (bt rfl) (bt rfl) rfl (by rw [ShYard_k0 hS100, o99])) ln99 (pd99 (aR 100)) <| ok_aloadn (pc' := 1) i99_0 rfl rfl <| ?_
  refine ok_getfi (v := 1) (pc' := 4) i99_1 o99 gi0_268 (ShYard_k0 hS100) hl rfl <| ok_kz1 (pc1 := 18) (pc2 := 7) i99_4 (by decide) rfl rfl <| ok_vret i99_18 rt99 <| kt_0 (pc' := 4) rfl <| ok_iloadn (pc' := 5) i153_4 rfl rfl <| ok_cc i153_5 rfl (cl_s o153 m0_352 na154 rfl rfl (bt rfl) (bt rfl) rfl) ln154 (pd154 (aI 1)) <| ok_iloadn (pc' := 1) i154_0 rfl rfl <| ok_kz0 (pc1 := 9) (pc2 := 4) i154_1 (by decide) rfl rfl <| ?_
  refine ok_iloadn (pc' := 5) i154_4 rfl rfl <| ok_iconst (pc' := 6) i154_5 rfl <| ok_kc1 (pc1 := 20) (pc2 := 9) i154_6 (by decide) rfl rfl <| ok_vret i154_20 rt154 <| kt_0 (pc' := 8) rfl <| ok_aloadn (pc' := 9) i153_8 rfl rfl <| ok_getfr (r := (100 + 296)) (pc' := 12) i153_9 o153 gr0_75 (ShYard_k0 hS100) (ShYard_r13 hS100) rfl <| ok_iloadn (pc' := 13) i153_12 rfl rfl <| ?_
  refine ok_aaload (r := (397 + 24 * 1)) (pc' := 14) i153_13 (ShYard_k296 hS100) (by decide) (ShYard_l296 hS100) (by decide) (ShYard_e296_1 hS100) rfl <| ok_aloadn (pc' := 15) i153_14 rfl rfl <| ok_getfr (r := 149) (pc' := 18) i153_15 o153 gr0_39 (ShYard_k0 hS100) (ShYard_r8 hS100) rfl <| ?_
  refine ok_cn0 (pc' := 21) (d0 := 0) i153_18 rfl (cl_v o153 m0_355 na17 rfl rfl (bt rfl) (bt rfl) rfl (by rw [ShState_k0 (HD_sl hD 1 (by omega)), o17])) ln17 (pd17 (aR (397 + 24 * 1)) (aR 149)) (by omega) (t17 (B := 397 + 24 * 1) (A := 149) (HD_sl hD 1 (by omega)) hS149 hRB hV hQ (by omega)) rfl (fun M501 p502 => ?_)
  refine ok_aloadn (pc' := 22) i153_21 rfl rfl <| ok_getfr (r := (100 + 345)) (pc' := 25) i153_22 o153 gr0_79 (ShYard_k0 hS100) (ShYard_r14 hS100) rfl <| ok_iloadn (pc' := 26) i153_25 rfl rfl <| ok_iconst (pc' := 27) i153_26 rfl <| ok_bastore (v := 1) (pc' := 28) i153_27 (Or.inr ⟨(ShYard_k345 hS100), by omega⟩) (ShYard_l345 hS100) (by decide) (by decide) rfl <| ok_aloadn (pc' := 29) i153_28 rfl rfl <| ok_getfr (r := 149) (pc' := 32) i153_29 o153 gr0_39 (ShYard_k0 hS100) (ShYard_r8 hS100) rfl <| ?_
  have hCM501_149 : RepS M501 149 s := RepS.fr hRB (fun a h1 h2 => (p502.2 a (by omega)).trans rfl)
  have z301 : 0 ≤ s 0 ∧ s 0 ≤ 1000000 := V_0 hV
  refine ok_getfi (v := (s 0)) (pc' := 35) i153_32 o153 gi0_200 (ShState_k0 hS149) (rd_na (by omega) (RepS_f0 hCM501_149)) rfl <| ok_ireti i153_35 rt153 <| kt_v (pc' := 7) rfl <| ok_i2l (v := (wr (s 0))) (pc' := 8) i327_7 rfl rfl <| ok_lastore (pc' := 9) i327_8 (ShOut_k0 hS464) (ShOut_l0 hS464) (by decide) rfl <| ok_goto (pc' := 18) i327_9 rfl <| ok_iconst (pc' := 19) i327_18 rfl <| ok_ireti i327_19 rt327 <| ?_
  refine kt_v (pc' := 3228) rfl <| ok_istore (pc' := 3230) (ls' := [aR 1, aR 100, aR 448, aR 464, aR 465, aI i, aI 0, w7, w8]) i0_3228 (bt rfl) rfl rfl <| ok_aloadn (pc' := 3231) i0_3230 rfl rfl <| ok_aloadn (pc' := 3232) i0_3231 rfl rfl <| ok_iload (pc' := 3234) i0_3232 rfl rfl <| ok_iconst (pc' := 3235) i0_3234 rfl <| ok_iadd (v := (i + 1)) (pc' := 3236) i0_3235 rfl rfl <| ok_iaload (v := 1) (pc' := 3237) i0_3236 (ShScr_k0 hS1) (by decide) (ShScr_l0 hS1) (by omega) (rd_na (by omega) (rd_na (by omega) (Eq.trans (congrFun (p502.2 1 (by omega)) (i + 1)) hc1))) rfl <| ?_
  refine ok_cc i0_3237 rfl (cl_v o0 m13_363 na277 rfl rfl (bt rfl) (bt rfl) rfl (by rw [ShModel_k0 hS448, o277])) ln277 (pd277 (aR 448) (aI 1)) <| ok_aloadn (pc' := 1) i277_0 rfl rfl <| ok_cc i277_1 rfl (cl_v o277 m9_216 na188 rfl rfl (bt rfl) (bt rfl) rfl (by rw [ShModel_k0 hS448, o188])) ln188 (pd188 (aR 448)) <| ok_aloadn (pc' := 1) i188_0 rfl rfl <| ok_iconst (pc' := 2) i188_1 rfl <| ok_putfj (kk := 0) (pc' := 5) i188_2 o188 pi188_63 (ShModel_k0 hS448) rfl rfl <| ok_aloadn (pc' := 6) i188_5 rfl rfl <| ok_aloadn (pc' := 7) i188_6 rfl rfl <| ?_
  have hCM501_448 : RepO M501 448 q s := RepO.fr hO ⟨((congrFun (p502.2 448 (by omega)) 2).trans (by rfl)), ((congrFun (p502.2 448 (by omega)) 3).trans (by rfl))⟩ (fun a h1 h2 => (p502.2 a (by omega)).trans rfl)
  refine ok_getfi (v := 1) (pc' := 10) i188_7 o188 gi9_66 (ShModel_k0 hS448) (rd_ni (by decide) (rd_na (by omega) (rd_na (by omega) (Eq.trans (congrFun (p502.2 448 (by omega)) 1) (hld.trans hl))))) rfl <| ok_kz1 (pc1 := 17) (pc2 := 13) i188_10 (by decide) rfl rfl <| ok_iconst (pc' := 18) i188_17 rfl <| ok_iconst (pc' := 19) i188_18 rfl <| ok_cc i188_19 rfl (cl_v o188 m9_70 na165 rfl rfl (bt rfl) (bt rfl) rfl (by rw [ShModel_k0 hS448, o165])) ln165 (pd165 (aR 448) (aI 0) (aI 1)) <| ok_aloadn (pc' := 1) i165_0 rfl rfl <| ok_getfi (v := 0) (pc' := 4) i165_1 o165 gi9_63 (ShModel_k0 hS448) rd_eq rfl <| ok_kz0 (pc1 := 16) (pc2 := 7) i165_4 (by decide) rfl rfl <| ?_
  refine ok_iloadn (pc' := 8) i165_7 rfl rfl <| ok_kz1 (pc1 := 16) (pc2 := 11) i165_8 (by decide) rfl rfl <| ok_aloadn (pc' := 17) i165_16 rfl rfl <| ok_getfi (v := 0) (pc' := 20) i165_17 o165 gi9_63 (ShModel_k0 hS448) rd_eq rfl <| ok_kz1 (pc1 := 27) (pc2 := 23) i165_20 (by decide) rfl rfl <| ok_iconst (pc' := 28) i165_27 rfl <| ok_iretz i165_28 rt165 (by decide) <| kt_v (pc' := 22) rfl <| ?_
  refine ok_iretz i188_22 rt188 (by decide) <| kt_v (pc' := 4) rfl <| ok_kz0 (pc1 := 29) (pc2 := 7) i277_4 (by decide) rfl rfl <| ok_aloadn (pc' := 8) i277_7 rfl rfl <| ok_iloadn (pc' := 9) i277_8 rfl rfl <| ok_iconst (pc' := 10) i277_9 rfl <| ok_iconst (pc' := 11) i277_10 rfl <| ok_cc i277_11 rfl (cl_s o277 m9_140 na164 rfl rfl (bt rfl) (bt rfl) rfl) ln164 (pd164 (aI 1) (aI 0) (aI 1)) <| ?_
  refine ok_iloadn (pc' := 1) i164_0 rfl rfl <| ok_iloadn (pc' := 2) i164_1 rfl rfl <| ok_kc0 (pc1 := 14) (pc2 := 5) i164_2 (by decide) rfl rfl <| ok_iloadn (pc' := 6) i164_5 rfl rfl <| ok_iloadn (pc' := 7) i164_6 rfl rfl <| ok_kc0 (pc1 := 14) (pc2 := 10) i164_7 (by decide) rfl rfl <| ok_iconst (pc' := 11) i164_10 rfl <| ok_goto (pc' := 15) i164_11 rfl <| ?_
  refine ok_iretz i164_15 rt164 (by decide) <| kt_v (pc' := 14) rfl <| ok_kz1 (pc1 := 21) (pc2 := 17) i277_14 (by decide) rfl rfl <| ok_iconst (pc' := 22) i277_21 rfl <| ok_iconst (pc' := 23) i277_22 rfl <| ok_cc i277_23 rfl (cl_v o277 m9_70 na165 rfl rfl (bt rfl) (bt rfl) rfl (by rw [ShModel_k0 hS448, o165])) ln165 (pd165 (aR 448) (aI 0) (aI 2)) <| ok_aloadn (pc' := 1) i165_0 rfl rfl <| ok_getfi (v := 0) (pc' := 4) i165_1 o165 gi9_63 (ShModel_k0 hS448) rd_eq rfl <| ?_
  refine ok_kz0 (pc1 := 16) (pc2 := 7) i165_4 (by decide) rfl rfl <| ok_iloadn (pc' := 8) i165_7 rfl rfl <| ok_kz1 (pc1 := 16) (pc2 := 11) i165_8 (by decide) rfl rfl <| ok_aloadn (pc' := 17) i165_16 rfl rfl <| ok_getfi (v := 0) (pc' := 20) i165_17 o165 gi9_63 (ShModel_k0 hS448) rd_eq rfl <| ok_kz1 (pc1 := 27) (pc2 := 23) i165_20 (by decide) rfl rfl <| ok_iconst (pc' := 28) i165_27 rfl <| ok_iretz i165_28 rt165 (by decide) <| ?_
  refine kt_v (pc' := 26) rfl <| ok_kz1 (pc1 := 31) (pc2 := 29) i277_26 (by decide) rfl rfl <| ok_aloadn (pc' := 32) i277_31 rfl rfl <| ok_bipush (v := 9) (pc' := 34) i277_32 rfl rfl <| ok_iloadn (pc' := 35) i277_34 rfl rfl <| ok_iadd (v := 10) (pc' := 36) i277_35 rfl rfl <| ?_
  refine ok_cn0 (pc' := 39) (d0 := 0) i277_36 rfl (cl_v o277 m9_314 na234 rfl rfl (bt rfl) (bt rfl) rfl (by rw [ShModel_k0 hS448, o234])) ln234 (pd234 (aR 448) (aI 10)) (by omega) (t234 (x1 := 10) hS448 (by omega)) rfl (fun M503 p504 => ?_)
  refine ok_aloadn (pc' := 40) i277_39 rfl rfl <| ok_getfr (r := (448 + 7)) (pc' := 43) i277_40 o277 gr9_28 (ShModel_k0 hS448) (ShModel_r11 hS448) rfl <| ok_iloadn (pc' := 44) i277_43 rfl rfl <| ok_iconst (pc' := 45) i277_44 rfl <| ok_bastore (v := 1) (pc' := 46) i277_45 (Or.inr ⟨(ShModel_k7 hS448), by omega⟩) (ShModel_l7 hS448) (by decide) (by decide) rfl <| ok_aloadn (pc' := 47) i277_46 rfl rfl <| ok_getfr (r := (448 + 5)) (pc' := 50) i277_47 o277 gr9_22 (ShModel_k0 hS448) (ShModel_r8 hS448) rfl <| ok_iconst (pc' := 51) i277_50 rfl <| ?_
  have hCM503_448 : RepO M503 448 q s := RepO.fr hCM501_448 ⟨((congrFun (upM_fr p504 (a := 448) (by omega)) 2).trans (by rw [up2_rd, if_neg (by omega), up2_na (by omega), up2_na (by omega)])), ((congrFun (upM_fr p504 (a := 448) (by omega)) 3).trans (by rw [up2_rd, if_neg (by omega), up2_na (by omega), up2_na (by omega)]))⟩ (fun a h1 h2 => (upM_fr p504 (by omega)).trans (by rw [up2_na (by omega), up2_na (by omega), up2_na (by omega)]))
  refine ok_iaload (v := (s 0)) (pc' := 52) i277_51 (ShModel_k5 hS448) (by decide) (ShModel_l5 hS448) (by decide) (rd_na (by omega) (RepO_s hCM503_448)) rfl <| ok_ireti i277_52 rt277 <| kt_v (pc' := 3240) rfl <| ok_istore (pc' := 3242) (ls' := [aR 1, aR 100, aR 448, aR 464, aR 465, aI i, aI 0, aI (s 0), w8]) i0_3240 (bt rfl) rfl rfl <| ok_aloadn (pc' := 3243) i0_3242 rfl rfl <| ok_cc i0_3243 rfl (cl_v o0 m13_188 na157 rfl rfl (bt rfl) (bt rfl) rfl (by rw [ShModel_k0 hS448, o157])) ln157 (pd157 (aR 448)) <| ok_aloadn (pc' := 1) i157_0 rfl rfl <| ok_getfi (v := 0) (pc' := 4) i157_1 o157 gi9_63 (ShModel_k0 hS448) (rd_na (by omega) (Eq.trans (congrFun (upM_fr p504 (a := 448) (by omega)) 0) rd_eq)) rfl <| ?_
  refine ok_ireti i157_4 rt157 <| kt_v (pc' := 3246) rfl <| ok_iload (pc' := 3248) i0_3246 rfl rfl <| ok_kc1 (pc1 := 3253) (pc2 := 3251) i0_3248 (by decide) rfl rfl <| ok_iload (pc' := 3255) i0_3253 rfl rfl <| ok_kz0 (pc1 := 3270) (pc2 := 3258) i0_3255 (by decide) rfl rfl <| ok_aloadn (pc' := 3259) i0_3258 rfl rfl <| ok_iconst (pc' := 3260) i0_3259 rfl <| ?_
  refine ok_laload (v := (wr (s 0))) (pc' := 3261) i0_3260 (ShOut_k0 hS464) (ShOut_l0 hS464) (by decide) (rd_na (by omega) (Eq.trans (congrFun (upM_fr p504 (a := 464) (by omega)) 0) (rd_na (by omega) rd_eq))) rfl <| ok_iload (pc' := 3263) i0_3261 rfl rfl <| ok_i2l (v := (wr (s 0))) (pc' := 3264) i0_3263 rfl rfl <| ok_lcmp0 (pc' := 3265) i0_3264 rfl <| ok_kz1 (pc1 := 3270) (pc2 := 3268) i0_3265 (by decide) rfl rfl <| ok_goto (pc' := 3329) i0_3270 rfl <| ?_
  exact K _ _ _ _ _ _ hD (by omega) (Inv_mono (Inv_save (w := 1) (x := 10) (by decide) hI hl ⟨hP, hRB, hO, hV, hQ, h40⟩ hH hS p502.1 p502.2 (by decide) rfl p504 rfl) (by omega))
theorem c56_0_1 {L n : Nat} {g : AG} {M : AM} {xs : Nat → Int32} {b i : Int} {w6 w7 w8 : AV} {Q : AO → AG → AM → Prop} (hD : HD L n g) (hI : Inv xs b M) (hi : 0 ≤ i ∧ i + 6 ≤ L) (hb : 0 ≤ b ∧ b ≤ 900000) (hl : M 100 6 = 0) (hc1 : M 1 (i + 1) = 1) (hu1 : M 445 1 = 0) (K : KK L n i b xs Q) :
    Ok 10 0 3273 [aR 1, aR 100, aR 448, aR 464, aR 465, aI i, w6, w7, w8] [] g M Q := by
  have hI0 := hI
  obtain ⟨hA, hld, hl01, q, hc, ⟨nx, sz, hH, hsz⟩, hS⟩ := hI0
  have hH0 := hH
  obtain ⟨⟨hn1, hn0⟩, ⟨hz2, hz0⟩, h10, hHj⟩ := hH0
  obtain ⟨hw0, ⟨bu, by_, hb1, hb13, hbu, hZ, hU⟩, he3, he4, he5, hId, tx, hT, hUt, htl, htr⟩ := hA
  have htz := hT.2.1
  obtain ⟨v1, hv1⟩ : ∃ u9 : Int, M 1 (i + 1) = u9 := ⟨_, rfl⟩
  have hr1 : -2147483648 ≤ v1 ∧ v1 < 2147483648 := hv1 ▸ scr_rg hw0 (i + 1)
  have hS1 := HD_s hD
  have hS100 := HD_y hD
  have hS448 := HD_o hD
  have hS464 := HD_u hD
  have hS465 := HD_ud hD
  have hu2 : M 455 1 = 0 := (hS 1 (by decide)).1.trans hu1
  refine ok_aloadn (pc' := 3274) i0_3273 rfl rfl <| ok_aloadn (pc' := 3275) i0_3274 rfl rfl <| ok_iload (pc' := 3277) i0_3275 rfl rfl <| ok_iconst (pc' := 3278) i0_3277 rfl <| ok_iadd (v := (i + 1)) (pc' := 3279) i0_3278 rfl rfl <| ok_iaload (v := 1) (pc' := 3280) i0_3279 (ShScr_k0 hS1) (by decide) (ShScr_l0 hS1) (by omega) hc1 rfl <| ok_aloadn (pc' := 3281) i0_3280 rfl rfl <| ok_cc i0_3281 rfl (cl_s o0 m13_364 na328 rfl rfl (bt rfl) (bt rfl) rfl) ln328 (pd328 (aR 100) (aI 1) (aR 464)) <| ?_
  refine ok_aloadn (pc' := 1) i328_0 rfl rfl <| ok_iconst (pc' := 2) i328_1 rfl <| ok_aloadn (pc' := 3) i328_2 rfl rfl <| ok_iloadn (pc' := 4) i328_3 rfl rfl <| ok_cc i328_4 rfl (cl_v o328 m13_170 na155 rfl rfl (bt rfl) (bt rfl) rfl (by rw [ShYard_k0 hS100, o155])) ln155 (pd155 (aR 100) (aI 1)) <| ok_iloadn (pc' := 1) i155_0 rfl rfl <| ok_cc i155_1 rfl (cl_s o155 m0_352 na154 rfl rfl (bt rfl) (bt rfl) rfl) ln154 (pd154 (aI 1)) <| ok_iloadn (pc' := 1) i154_0 rfl rfl <| ?_
  refine ok_kz0 (pc1 := 9) (pc2 := 4) i154_1 (by decide) rfl rfl <| ok_iloadn (pc' := 5) i154_4 rfl rfl <| ok_iconst (pc' := 6) i154_5 rfl <| ok_kc1 (pc1 := 20) (pc2 := 9) i154_6 (by decide) rfl rfl <| ok_vret i154_20 rt154 <| kt_0 (pc' := 4) rfl <| ok_aloadn (pc' := 5) i155_4 rfl rfl <| ok_getfr (r := (100 + 345)) (pc' := 8) i155_5 o155 gr0_79 (ShYard_k0 hS100) (ShYard_r14 hS100) rfl <| ?_
  refine ok_iloadn (pc' := 9) i155_8 rfl rfl <| ok_baload (v := 0) (pc' := 10) i155_9 (ShYard_k345 hS100) (by decide) (ShYard_l345 hS100) (by decide) hu1 rfl <| ok_kz0 (pc1 := 24) (pc2 := 13) i155_10 (by decide) rfl rfl <| ok_throw th155_13 (bt rfl) <| kt_h hn328 hf328_4_12 hr328_15 <| kt_v (pc' := 3284) rfl <| ?_
  refine ok_al hD (fun g hD => ?_)
  have hS448 := HD_o hD
  have hS1 := HD_s hD
  have hS464 := HD_u hD
  have hS465 := HD_ud hD
  refine ok_istore (pc' := 3286) (ls' := [aR 1, aR 100, aR 448, aR 464, aR 465, aI i, aI 2, w7, w8]) i0_3284 (bt rfl) rfl rfl <| ok_aloadn (pc' := 3287) i0_3286 rfl rfl <| ok_aloadn (pc' := 3288) i0_3287 rfl rfl <| ok_iload (pc' := 3290) i0_3288 rfl rfl <| ok_iconst (pc' := 3291) i0_3290 rfl <| ok_iadd (v := (i + 1)) (pc' := 3292) i0_3291 rfl rfl <| ok_iaload (v := 1) (pc' := 3293) i0_3292 (ShScr_k0 hS1) (by decide) (ShScr_l0 hS1) (by omega) hc1 rfl <| ok_cc i0_3293 rfl (cl_v o0 m13_366 na278 rfl rfl (bt rfl) (bt rfl) rfl (by rw [ShModel_k0 hS448, o278])) ln278 (pd278 (aR 448) (aI 1)) <| ?_
  refine ok_aloadn (pc' := 1) i278_0 rfl rfl <| ok_iconst (pc' := 2) i278_1 rfl <| ok_putfj (kk := 0) (pc' := 5) i278_2 o278 pi278_63 (ShModel_k0 hS448) rfl rfl <| ok_aloadn (pc' := 6) i278_5 rfl rfl <| ok_iloadn (pc' := 7) i278_6 rfl rfl <| ok_iconst (pc' := 8) i278_7 rfl <| ok_iconst (pc' := 9) i278_8 rfl <| ok_cc i278_9 rfl (cl_s o278 m9_140 na164 rfl rfl (bt rfl) (bt rfl) rfl) ln164 (pd164 (aI 1) (aI 0) (aI 1)) <| ?_
  refine ok_iloadn (pc' := 1) i164_0 rfl rfl <| ok_iloadn (pc' := 2) i164_1 rfl rfl <| ok_kc0 (pc1 := 14) (pc2 := 5) i164_2 (by decide) rfl rfl <| ok_iloadn (pc' := 6) i164_5 rfl rfl <| ok_iloadn (pc' := 7) i164_6 rfl rfl <| ok_kc0 (pc1 := 14) (pc2 := 10) i164_7 (by decide) rfl rfl <| ok_iconst (pc' := 11) i164_10 rfl <| ok_goto (pc' := 15) i164_11 rfl <| ?_
  refine ok_iretz i164_15 rt164 (by decide) <| kt_v (pc' := 12) rfl <| ok_kz1 (pc1 := 19) (pc2 := 15) i278_12 (by decide) rfl rfl <| ok_iconst (pc' := 20) i278_19 rfl <| ok_iconst (pc' := 21) i278_20 rfl <| ok_cc i278_21 rfl (cl_v o278 m9_70 na165 rfl rfl (bt rfl) (bt rfl) rfl (by rw [ShModel_k0 hS448, o165])) ln165 (pd165 (aR 448) (aI 0) (aI 1)) <| ok_aloadn (pc' := 1) i165_0 rfl rfl <| ok_getfi (v := 0) (pc' := 4) i165_1 o165 gi9_63 (ShModel_k0 hS448) rd_eq rfl <| ?_
  refine ok_kz0 (pc1 := 16) (pc2 := 7) i165_4 (by decide) rfl rfl <| ok_iloadn (pc' := 8) i165_7 rfl rfl <| ok_kz1 (pc1 := 16) (pc2 := 11) i165_8 (by decide) rfl rfl <| ok_aloadn (pc' := 17) i165_16 rfl rfl <| ok_getfi (v := 0) (pc' := 20) i165_17 o165 gi9_63 (ShModel_k0 hS448) rd_eq rfl <| ok_kz1 (pc1 := 27) (pc2 := 23) i165_20 (by decide) rfl rfl <| ok_iconst (pc' := 28) i165_27 rfl <| ok_iretz i165_28 rt165 (by decide) <| ?_
  refine kt_v (pc' := 24) rfl <| ok_kz0 (pc1 := 49) (pc2 := 27) i278_24 (by decide) rfl rfl <| ok_aloadn (pc' := 28) i278_27 rfl rfl <| ok_aloadn (pc' := 29) i278_28 rfl rfl <| ok_getfr (r := (448 + 7)) (pc' := 32) i278_29 o278 gr9_28 (ShModel_k0 hS448) (ShModel_r11 hS448) rfl <| ok_iloadn (pc' := 33) i278_32 rfl rfl <| ok_baload (v := 0) (pc' := 34) i278_33 (ShModel_k7 hS448) (by decide) (ShModel_l7 hS448) (by decide) (rd_na (by omega) hu2) rfl <| ok_kz0 (pc1 := 41) (pc2 := 37) i278_34 (by decide) rfl rfl <| ?_
  refine ok_iconst (pc' := 38) i278_37 rfl <| ok_goto (pc' := 42) i278_38 rfl <| ok_iconst (pc' := 43) i278_42 rfl <| ok_cc i278_43 rfl (cl_v o278 m9_70 na165 rfl rfl (bt rfl) (bt rfl) rfl (by rw [ShModel_k0 hS448, o165])) ln165 (pd165 (aR 448) (aI 1) (aI 2)) <| ok_aloadn (pc' := 1) i165_0 rfl rfl <| ok_getfi (v := 0) (pc' := 4) i165_1 o165 gi9_63 (ShModel_k0 hS448) rd_eq rfl <| ok_kz0 (pc1 := 16) (pc2 := 7) i165_4 (by decide) rfl rfl <| ok_iloadn (pc' := 8) i165_7 rfl rfl <| ?_
  refine ok_kz0 (pc1 := 16) (pc2 := 11) i165_8 (by decide) rfl rfl <| ok_aloadn (pc' := 12) i165_11 rfl rfl <| ok_iloadn (pc' := 13) i165_12 rfl rfl <| ok_putfj (kk := 0) (pc' := 16) i165_13 o165 pi165_63 (ShModel_k0 hS448) rfl rfl <| ok_aloadn (pc' := 17) i165_16 rfl rfl <| ok_getfi (v := 2) (pc' := 20) i165_17 o165 gi9_63 (ShModel_k0 hS448) rd_eq rfl <| ok_kz0 (pc1 := 27) (pc2 := 23) i165_20 (by decide) rfl rfl <| ok_iconst (pc' := 24) i165_23 rfl <| ?_
  refine ok_goto (pc' := 28) i165_24 rfl <| ok_iretz i165_28 rt165 (by decide) <| kt_v (pc' := 46) rfl <| ok_kz0 (pc1 := 51) (pc2 := 49) i278_46 (by decide) rfl rfl <| ok_iconst (pc' := 50) i278_49 rfl <| ok_ireti i278_50 rt278 <| kt_v (pc' := 3296) rfl <| ok_istore (pc' := 3298) (ls' := [aR 1, aR 100, aR 448, aR 464, aR 465, aI i, aI 2, aI 0, w8]) i0_3296 (bt rfl) rfl rfl <| ?_
  refine ok_aloadn (pc' := 3299) i0_3298 rfl rfl <| ok_cc i0_3299 rfl (cl_v o0 m13_188 na157 rfl rfl (bt rfl) (bt rfl) rfl (by rw [ShModel_k0 hS448, o157])) ln157 (pd157 (aR 448)) <| ok_aloadn (pc' := 1) i157_0 rfl rfl <| ok_getfi (v := 2) (pc' := 4) i157_1 o157 gi9_63 (ShModel_k0 hS448) rd_eq rfl <| ok_ireti i157_4 rt157 <| kt_v (pc' := 3302) rfl <| ok_iload (pc' := 3304) i0_3302 rfl rfl <| ok_kc1 (pc1 := 3309) (pc2 := 3307) i0_3304 (by decide) rfl rfl <| ?_
  refine ok_iload (pc' := 3311) i0_3309 rfl rfl <| ok_kz1 (pc1 := 3326) (pc2 := 3314) i0_3311 (by decide) rfl rfl <| ok_goto (pc' := 3329) i0_3326 rfl <| ?_
  exact K _ _ _ _ _ _ hD (by omega) (Inv_mono (Inv_same hI (Same.thr (Same.thr Same.rfl))) (by omega))
theorem c56_1_1 {L n : Nat} {g : AG} {M : AM} {xs : Nat → Int32} {b i : Int} {w6 w7 w8 : AV} {Q : AO → AG → AM → Prop} (hD : HD L n g) (hI : Inv xs b M) (hi : 0 ≤ i ∧ i + 6 ≤ L) (hb : 0 ≤ b ∧ b ≤ 900000) (hl : M 100 6 = 1) (hc1 : M 1 (i + 1) = 1) (hu1 : M 445 1 = 0) (K : KK L n i b xs Q) :
    Ok 10 0 3273 [aR 1, aR 100, aR 448, aR 464, aR 465, aI i, w6, w7, w8] [] g M Q := by
  have hI0 := hI
  obtain ⟨hA, hld, hl01, q, hc, ⟨nx, sz, hH, hsz⟩, hS⟩ := hI0
  have hH0 := hH
  obtain ⟨⟨hn1, hn0⟩, ⟨hz2, hz0⟩, h10, hHj⟩ := hH0
  obtain ⟨hw0, ⟨bu, by_, hb1, hb13, hbu, hZ, hU⟩, he3, he4, he5, hId, tx, hT, hUt, htl, htr⟩ := hA
  have htz := hT.2.1
  obtain ⟨s, hP, hRB, hO, hV, hQ, h40⟩ := hc hl
  have ys3 := V_3 hV
  have ys4 := V_4 hV
  have yq0 := Q_0 hQ
  have yq1 := Q_1 hQ
  obtain ⟨v1, hv1⟩ : ∃ u9 : Int, M 1 (i + 1) = u9 := ⟨_, rfl⟩
  have hr1 : -2147483648 ≤ v1 ∧ v1 < 2147483648 := hv1 ▸ scr_rg hw0 (i + 1)
  have hS1 := HD_s hD
  have hS100 := HD_y hD
  have hS448 := HD_o hD
  have hS464 := HD_u hD
  have hS465 := HD_ud hD
  have hu2 : M 455 1 = 0 := (hS 1 (by decide)).1.trans hu1
  refine ok_aloadn (pc' := 3274) i0_3273 rfl rfl <| ok_aloadn (pc' := 3275) i0_3274 rfl rfl <| ok_iload (pc' := 3277) i0_3275 rfl rfl <| ok_iconst (pc' := 3278) i0_3277 rfl <| ok_iadd (v := (i + 1)) (pc' := 3279) i0_3278 rfl rfl <| ok_iaload (v := 1) (pc' := 3280) i0_3279 (ShScr_k0 hS1) (by decide) (ShScr_l0 hS1) (by omega) hc1 rfl <| ok_aloadn (pc' := 3281) i0_3280 rfl rfl <| ok_cc i0_3281 rfl (cl_s o0 m13_364 na328 rfl rfl (bt rfl) (bt rfl) rfl) ln328 (pd328 (aR 100) (aI 1) (aR 464)) <| ?_
  refine ok_aloadn (pc' := 1) i328_0 rfl rfl <| ok_iconst (pc' := 2) i328_1 rfl <| ok_aloadn (pc' := 3) i328_2 rfl rfl <| ok_iloadn (pc' := 4) i328_3 rfl rfl <| ok_cc i328_4 rfl (cl_v o328 m13_170 na155 rfl rfl (bt rfl) (bt rfl) rfl (by rw [ShYard_k0 hS100, o155])) ln155 (pd155 (aR 100) (aI 1)) <| ok_iloadn (pc' := 1) i155_0 rfl rfl <| ok_cc i155_1 rfl (cl_s o155 m0_352 na154 rfl rfl (bt rfl) (bt rfl) rfl) ln154 (pd154 (aI 1)) <| ok_iloadn (pc' := 1) i154_0 rfl rfl <| ?_
  refine ok_kz0 (pc1 := 9) (pc2 := 4) i154_1 (by decide) rfl rfl <| ok_iloadn (pc' := 5) i154_4 rfl rfl <| ok_iconst (pc' := 6) i154_5 rfl <| ok_kc1 (pc1 := 20) (pc2 := 9) i154_6 (by decide) rfl rfl <| ok_vret i154_20 rt154 <| kt_0 (pc' := 4) rfl <| ok_aloadn (pc' := 5) i155_4 rfl rfl <| ok_getfr (r := (100 + 345)) (pc' := 8) i155_5 o155 gr0_79 (ShYard_k0 hS100) (ShYard_r14 hS100) rfl <| ?_
  refine ok_iloadn (pc' := 9) i155_8 rfl rfl <| ok_baload (v := 0) (pc' := 10) i155_9 (ShYard_k345 hS100) (by decide) (ShYard_l345 hS100) (by decide) hu1 rfl <| ok_kz0 (pc1 := 24) (pc2 := 13) i155_10 (by decide) rfl rfl <| ok_throw th155_13 (bt rfl) <| kt_h hn328 hf328_4_12 hr328_15 <| kt_v (pc' := 3284) rfl <| ?_
  refine ok_al hD (fun g hD => ?_)
  have hS448 := HD_o hD
  have hS1 := HD_s hD
  have hS464 := HD_u hD
  have hS465 := HD_ud hD
  refine ok_istore (pc' := 3286) (ls' := [aR 1, aR 100, aR 448, aR 464, aR 465, aI i, aI 2, w7, w8]) i0_3284 (bt rfl) rfl rfl <| ok_aloadn (pc' := 3287) i0_3286 rfl rfl <| ok_aloadn (pc' := 3288) i0_3287 rfl rfl <| ok_iload (pc' := 3290) i0_3288 rfl rfl <| ok_iconst (pc' := 3291) i0_3290 rfl <| ok_iadd (v := (i + 1)) (pc' := 3292) i0_3291 rfl rfl <| ok_iaload (v := 1) (pc' := 3293) i0_3292 (ShScr_k0 hS1) (by decide) (ShScr_l0 hS1) (by omega) hc1 rfl <| ok_cc i0_3293 rfl (cl_v o0 m13_366 na278 rfl rfl (bt rfl) (bt rfl) rfl (by rw [ShModel_k0 hS448, o278])) ln278 (pd278 (aR 448) (aI 1)) <| ?_
  refine ok_aloadn (pc' := 1) i278_0 rfl rfl <| ok_iconst (pc' := 2) i278_1 rfl <| ok_putfj (kk := 0) (pc' := 5) i278_2 o278 pi278_63 (ShModel_k0 hS448) rfl rfl <| ok_aloadn (pc' := 6) i278_5 rfl rfl <| ok_iloadn (pc' := 7) i278_6 rfl rfl <| ok_iconst (pc' := 8) i278_7 rfl <| ok_iconst (pc' := 9) i278_8 rfl <| ok_cc i278_9 rfl (cl_s o278 m9_140 na164 rfl rfl (bt rfl) (bt rfl) rfl) ln164 (pd164 (aI 1) (aI 0) (aI 1)) <| ?_
  refine ok_iloadn (pc' := 1) i164_0 rfl rfl <| ok_iloadn (pc' := 2) i164_1 rfl rfl <| ok_kc0 (pc1 := 14) (pc2 := 5) i164_2 (by decide) rfl rfl <| ok_iloadn (pc' := 6) i164_5 rfl rfl <| ok_iloadn (pc' := 7) i164_6 rfl rfl <| ok_kc0 (pc1 := 14) (pc2 := 10) i164_7 (by decide) rfl rfl <| ok_iconst (pc' := 11) i164_10 rfl <| ok_goto (pc' := 15) i164_11 rfl <| ?_
  refine ok_iretz i164_15 rt164 (by decide) <| kt_v (pc' := 12) rfl <| ok_kz1 (pc1 := 19) (pc2 := 15) i278_12 (by decide) rfl rfl <| ok_iconst (pc' := 20) i278_19 rfl <| ok_iconst (pc' := 21) i278_20 rfl <| ok_cc i278_21 rfl (cl_v o278 m9_70 na165 rfl rfl (bt rfl) (bt rfl) rfl (by rw [ShModel_k0 hS448, o165])) ln165 (pd165 (aR 448) (aI 0) (aI 1)) <| ok_aloadn (pc' := 1) i165_0 rfl rfl <| ok_getfi (v := 0) (pc' := 4) i165_1 o165 gi9_63 (ShModel_k0 hS448) rd_eq rfl <| ?_
  refine ok_kz0 (pc1 := 16) (pc2 := 7) i165_4 (by decide) rfl rfl <| ok_iloadn (pc' := 8) i165_7 rfl rfl <| ok_kz1 (pc1 := 16) (pc2 := 11) i165_8 (by decide) rfl rfl <| ok_aloadn (pc' := 17) i165_16 rfl rfl <| ok_getfi (v := 0) (pc' := 20) i165_17 o165 gi9_63 (ShModel_k0 hS448) rd_eq rfl <| ok_kz1 (pc1 := 27) (pc2 := 23) i165_20 (by decide) rfl rfl <| ok_iconst (pc' := 28) i165_27 rfl <| ok_iretz i165_28 rt165 (by decide) <| ?_
  refine kt_v (pc' := 24) rfl <| ok_kz0 (pc1 := 49) (pc2 := 27) i278_24 (by decide) rfl rfl <| ok_aloadn (pc' := 28) i278_27 rfl rfl <| ok_aloadn (pc' := 29) i278_28 rfl rfl <| ok_getfr (r := (448 + 7)) (pc' := 32) i278_29 o278 gr9_28 (ShModel_k0 hS448) (ShModel_r11 hS448) rfl <| ok_iloadn (pc' := 33) i278_32 rfl rfl <| ok_baload (v := 0) (pc' := 34) i278_33 (ShModel_k7 hS448) (by decide) (ShModel_l7 hS448) (by decide) (rd_na (by omega) hu2) rfl <| ok_kz0 (pc1 := 41) (pc2 := 37) i278_34 (by decide) rfl rfl <| ?_
  refine ok_iconst (pc' := 38) i278_37 rfl <| ok_goto (pc' := 42) i278_38 rfl <| ok_iconst (pc' := 43) i278_42 rfl <| ok_cc i278_43 rfl (cl_v o278 m9_70 na165 rfl rfl (bt rfl) (bt rfl) rfl (by rw [ShModel_k0 hS448, o165])) ln165 (pd165 (aR 448) (aI 1) (aI 2)) <| ok_aloadn (pc' := 1) i165_0 rfl rfl <| ok_getfi (v := 0) (pc' := 4) i165_1 o165 gi9_63 (ShModel_k0 hS448) rd_eq rfl <| ok_kz0 (pc1 := 16) (pc2 := 7) i165_4 (by decide) rfl rfl <| ok_iloadn (pc' := 8) i165_7 rfl rfl <| ?_
  refine ok_kz0 (pc1 := 16) (pc2 := 11) i165_8 (by decide) rfl rfl <| ok_aloadn (pc' := 12) i165_11 rfl rfl <| ok_iloadn (pc' := 13) i165_12 rfl rfl <| ok_putfj (kk := 0) (pc' := 16) i165_13 o165 pi165_63 (ShModel_k0 hS448) rfl rfl <| ok_aloadn (pc' := 17) i165_16 rfl rfl <| ok_getfi (v := 2) (pc' := 20) i165_17 o165 gi9_63 (ShModel_k0 hS448) rd_eq rfl <| ok_kz0 (pc1 := 27) (pc2 := 23) i165_20 (by decide) rfl rfl <| ok_iconst (pc' := 24) i165_23 rfl <| ?_
  refine ok_goto (pc' := 28) i165_24 rfl <| ok_iretz i165_28 rt165 (by decide) <| kt_v (pc' := 46) rfl <| ok_kz0 (pc1 := 51) (pc2 := 49) i278_46 (by decide) rfl rfl <| ok_iconst (pc' := 50) i278_49 rfl <| ok_ireti i278_50 rt278 <| kt_v (pc' := 3296) rfl <| ok_istore (pc' := 3298) (ls' := [aR 1, aR 100, aR 448, aR 464, aR 465, aI i, aI 2, aI 0, w8]) i0_3296 (bt rfl) rfl rfl <| ?_
  refine ok_aloadn (pc' := 3299) i0_3298 rfl rfl <| ok_cc i0_3299 rfl (cl_v o0 m13_188 na157 rfl rfl (bt rfl) (bt rfl) rfl (by rw [ShModel_k0 hS448, o157])) ln157 (pd157 (aR 448)) <| ok_aloadn (pc' := 1) i157_0 rfl rfl <| ok_getfi (v := 2) (pc' := 4) i157_1 o157 gi9_63 (ShModel_k0 hS448) rd_eq rfl <| ok_ireti i157_4 rt157 <| kt_v (pc' := 3302) rfl <| ok_iload (pc' := 3304) i0_3302 rfl rfl <| ok_kc1 (pc1 := 3309) (pc2 := 3307) i0_3304 (by decide) rfl rfl <| ?_
  refine ok_iload (pc' := 3311) i0_3309 rfl rfl <| ok_kz1 (pc1 := 3326) (pc2 := 3314) i0_3311 (by decide) rfl rfl <| ok_goto (pc' := 3329) i0_3326 rfl <| ?_
  exact K _ _ _ _ _ _ hD (by omega) (Inv_mono (Inv_same hI (Same.thr (Same.thr Same.rfl))) (by omega))
theorem c56_1_1u {L n : Nat} {g : AG} {M : AM} {xs : Nat → Int32} {b i : Int} {w6 w7 w8 : AV} {Q : AO → AG → AM → Prop} (hD : HD L n g) (hI : Inv xs b M) (hi : 0 ≤ i ∧ i + 6 ≤ L) (hb : 0 ≤ b ∧ b ≤ 900000) (hl : M 100 6 = 1) (hc1 : M 1 (i + 1) = 1) (hu1 : M 445 1 = 1) (K : KK L n i b xs Q) :
    Ok 10 0 3273 [aR 1, aR 100, aR 448, aR 464, aR 465, aI i, w6, w7, w8] [] g M Q := by
  have hI0 := hI
  obtain ⟨hA, hld, hl01, q, hc, ⟨nx, sz, hH, hsz⟩, hS⟩ := hI0
  have hH0 := hH
  obtain ⟨⟨hn1, hn0⟩, ⟨hz2, hz0⟩, h10, hHj⟩ := hH0
  obtain ⟨hw0, ⟨bu, by_, hb1, hb13, hbu, hZ, hU⟩, he3, he4, he5, hId, tx, hT, hUt, htl, htr⟩ := hA
  have htz := hT.2.1
  obtain ⟨s, hP, hRB, hO, hV, hQ, h40⟩ := hc hl
  have ys3 := V_3 hV
  have ys4 := V_4 hV
  have yq0 := Q_0 hQ
  have yq1 := Q_1 hQ
  obtain ⟨v1, hv1⟩ : ∃ u9 : Int, M 1 (i + 1) = u9 := ⟨_, rfl⟩
  have hr1 : -2147483648 ≤ v1 ∧ v1 < 2147483648 := hv1 ▸ scr_rg hw0 (i + 1)
  have hS1 := HD_s hD
  have hS100 := HD_y hD
  have hS149 := HD_b hD
  have hS202 := HD_h hD
  have hS448 := HD_o hD
  have hS464 := HD_u hD
  have hu2 : M 455 1 = 1 := (hS 1 (by decide)).1.trans hu1
  obtain ⟨s1, hRs, hKs, hVs, h4s⟩ : ∃ s1 : Int → Int, RepS M (397 + 24 * 1) s1 ∧ KeptAt M (9 + 1) s1 ∧ Val b q s1 ∧ s1 3 ≤ 40 := slot_got (w := 1) hS (by decide) hu1
  refine ok_aloadn (pc' := 3274) i0_3273 rfl rfl <| ok_aloadn (pc' := 3275) i0_3274 rfl rfl <| ok_iload (pc' := 3277) i0_3275 rfl rfl <| ok_iconst (pc' := 3278) i0_3277 rfl <| ok_iadd (v := (i + 1)) (pc' := 3279) i0_3278 rfl rfl <| ok_iaload (v := 1) (pc' := 3280) i0_3279 (ShScr_k0 hS1) (by decide) (ShScr_l0 hS1) (by omega) hc1 rfl <| ok_aloadn (pc' := 3281) i0_3280 rfl rfl <| ok_cc i0_3281 rfl (cl_s o0 m13_364 na328 rfl rfl (bt rfl) (bt rfl) rfl) ln328 (pd328 (aR 100) (aI 1) (aR 464)) <| ?_
  refine ok_aloadn (pc' := 1) i328_0 rfl rfl <| ok_iconst (pc' := 2) i328_1 rfl <| ok_aloadn (pc' := 3) i328_2 rfl rfl <| ok_iloadn (pc' := 4) i328_3 rfl rfl <| ok_cc i328_4 rfl (cl_v o328 m13_170 na155 rfl rfl (bt rfl) (bt rfl) rfl (by rw [ShYard_k0 hS100, o155])) ln155 (pd155 (aR 100) (aI 1)) <| ok_iloadn (pc' := 1) i155_0 rfl rfl <| ok_cc i155_1 rfl (cl_s o155 m0_352 na154 rfl rfl (bt rfl) (bt rfl) rfl) ln154 (pd154 (aI 1)) <| ok_iloadn (pc' := 1) i154_0 rfl rfl <| ?_
  refine ok_kz0 (pc1 := 9) (pc2 := 4) i154_1 (by decide) rfl rfl <| ok_iloadn (pc' := 5) i154_4 rfl rfl <| ok_iconst (pc' := 6) i154_5 rfl <| ok_kc1 (pc1 := 20) (pc2 := 9) i154_6 (by decide) rfl rfl <| ok_vret i154_20 rt154 <| kt_0 (pc' := 4) rfl <| ok_aloadn (pc' := 5) i155_4 rfl rfl <| ok_getfr (r := (100 + 345)) (pc' := 8) i155_5 o155 gr0_79 (ShYard_k0 hS100) (ShYard_r14 hS100) rfl <| ?_
  refine ok_iloadn (pc' := 9) i155_8 rfl rfl <| ok_baload (v := 1) (pc' := 10) i155_9 (ShYard_k345 hS100) (by decide) (ShYard_l345 hS100) (by decide) hu1 rfl <| ok_kz1 (pc1 := 24) (pc2 := 13) i155_10 (by decide) rfl rfl <| ok_aloadn (pc' := 25) i155_24 rfl rfl <| ok_getfr (r := 149) (pc' := 28) i155_25 o155 gr0_39 (ShYard_k0 hS100) (ShYard_r8 hS100) rfl <| ok_aloadn (pc' := 29) i155_28 rfl rfl <| ok_getfr (r := (100 + 296)) (pc' := 32) i155_29 o155 gr0_75 (ShYard_k0 hS100) (ShYard_r13 hS100) rfl <| ok_iloadn (pc' := 33) i155_32 rfl rfl <| ?_
  refine ok_aaload (r := (397 + 24 * 1)) (pc' := 34) i155_33 (ShYard_k296 hS100) (by decide) (ShYard_l296 hS100) (by decide) (ShYard_e296_1 hS100) rfl <| ?_
  refine ok_cn0 (pc' := 37) (d0 := 0) i155_34 rfl (cl_v o155 m0_355 na17 rfl rfl (bt rfl) (bt rfl) rfl (by rw [ShState_k0 hS149, o17])) ln17 (pd17 (aR 149) (aR (397 + 24 * 1))) (by omega) (t17 (B := 149) (A := 397 + 24 * 1) hS149 (HD_sl hD 1 (by omega)) hRs hVs hQ (by omega)) rfl (fun M501 p502 => ?_)
  refine ok_aloadn (pc' := 38) i155_37 rfl rfl <| ok_getfr (r := 202) (pc' := 41) i155_38 o155 gr0_71 (ShYard_k0 hS100) (ShYard_r12 hS100) rfl <| ok_iconst (pc' := 42) i155_41 rfl <| ok_putfj (kk := 2) (pc' := 45) i155_42 o155 pi155_343 (ShHist_k0 hS202) rfl rfl <| ok_aloadn (pc' := 46) i155_45 rfl rfl <| ok_getfr (r := 149) (pc' := 49) i155_46 o155 gr0_39 (ShYard_k0 hS100) (ShYard_r8 hS100) rfl <| ok_getfi (v := (s1 0)) (pc' := 52) i155_49 o155 gi0_200 (ShState_k0 hS149) (rd_na (by omega) (RepS_f0 p502.1)) rfl <| ok_ireti i155_52 rt155 <| ?_
  refine kt_v (pc' := 7) rfl <| ok_i2l (v := (wr (s1 0))) (pc' := 8) i328_7 rfl rfl <| ok_lastore (pc' := 9) i328_8 (ShOut_k0 hS464) (ShOut_l0 hS464) (by decide) rfl <| ok_goto (pc' := 18) i328_9 rfl <| ok_iconst (pc' := 19) i328_18 rfl <| ok_ireti i328_19 rt328 <| kt_v (pc' := 3284) rfl <| ok_istore (pc' := 3286) (ls' := [aR 1, aR 100, aR 448, aR 464, aR 465, aI i, aI 0, w7, w8]) i0_3284 (bt rfl) rfl rfl <| ?_
  refine ok_aloadn (pc' := 3287) i0_3286 rfl rfl <| ok_aloadn (pc' := 3288) i0_3287 rfl rfl <| ok_iload (pc' := 3290) i0_3288 rfl rfl <| ok_iconst (pc' := 3291) i0_3290 rfl <| ok_iadd (v := (i + 1)) (pc' := 3292) i0_3291 rfl rfl <| ok_iaload (v := 1) (pc' := 3293) i0_3292 (ShScr_k0 hS1) (by decide) (ShScr_l0 hS1) (by omega) (rd_na (by omega) (rd_na (by omega) (Eq.trans (congrFun (p502.2 1 (by omega)) (i + 1)) hc1))) rfl <| ok_cc i0_3293 rfl (cl_v o0 m13_366 na278 rfl rfl (bt rfl) (bt rfl) rfl (by rw [ShModel_k0 hS448, o278])) ln278 (pd278 (aR 448) (aI 1)) <| ok_aloadn (pc' := 1) i278_0 rfl rfl <| ?_
  refine ok_iconst (pc' := 2) i278_1 rfl <| ok_putfj (kk := 0) (pc' := 5) i278_2 o278 pi278_63 (ShModel_k0 hS448) rfl rfl <| ok_aloadn (pc' := 6) i278_5 rfl rfl <| ok_iloadn (pc' := 7) i278_6 rfl rfl <| ok_iconst (pc' := 8) i278_7 rfl <| ok_iconst (pc' := 9) i278_8 rfl <| ok_cc i278_9 rfl (cl_s o278 m9_140 na164 rfl rfl (bt rfl) (bt rfl) rfl) ln164 (pd164 (aI 1) (aI 0) (aI 1)) <| ok_iloadn (pc' := 1) i164_0 rfl rfl <| ?_
  refine ok_iloadn (pc' := 2) i164_1 rfl rfl <| ok_kc0 (pc1 := 14) (pc2 := 5) i164_2 (by decide) rfl rfl <| ok_iloadn (pc' := 6) i164_5 rfl rfl <| ok_iloadn (pc' := 7) i164_6 rfl rfl <| ok_kc0 (pc1 := 14) (pc2 := 10) i164_7 (by decide) rfl rfl <| ok_iconst (pc' := 11) i164_10 rfl <| ok_goto (pc' := 15) i164_11 rfl <| ok_iretz i164_15 rt164 (by decide) <| ?_
  refine kt_v (pc' := 12) rfl <| ok_kz1 (pc1 := 19) (pc2 := 15) i278_12 (by decide) rfl rfl <| ok_iconst (pc' := 20) i278_19 rfl <| ok_iconst (pc' := 21) i278_20 rfl <| ok_cc i278_21 rfl (cl_v o278 m9_70 na165 rfl rfl (bt rfl) (bt rfl) rfl (by rw [ShModel_k0 hS448, o165])) ln165 (pd165 (aR 448) (aI 0) (aI 1)) <| ok_aloadn (pc' := 1) i165_0 rfl rfl <| ok_getfi (v := 0) (pc' := 4) i165_1 o165 gi9_63 (ShModel_k0 hS448) rd_eq rfl <| ok_kz0 (pc1 := 16) (pc2 := 7) i165_4 (by decide) rfl rfl <| ?_
  refine ok_iloadn (pc' := 8) i165_7 rfl rfl <| ok_kz1 (pc1 := 16) (pc2 := 11) i165_8 (by decide) rfl rfl <| ok_aloadn (pc' := 17) i165_16 rfl rfl <| ok_getfi (v := 0) (pc' := 20) i165_17 o165 gi9_63 (ShModel_k0 hS448) rd_eq rfl <| ok_kz1 (pc1 := 27) (pc2 := 23) i165_20 (by decide) rfl rfl <| ok_iconst (pc' := 28) i165_27 rfl <| ok_iretz i165_28 rt165 (by decide) <| kt_v (pc' := 24) rfl <| ?_
  refine ok_kz0 (pc1 := 49) (pc2 := 27) i278_24 (by decide) rfl rfl <| ok_aloadn (pc' := 28) i278_27 rfl rfl <| ok_aloadn (pc' := 29) i278_28 rfl rfl <| ok_getfr (r := (448 + 7)) (pc' := 32) i278_29 o278 gr9_28 (ShModel_k0 hS448) (ShModel_r11 hS448) rfl <| ok_iloadn (pc' := 33) i278_32 rfl rfl <| ?_
  have hCM501_448 : RepO M501 448 q s := RepO.fr hO ⟨((congrFun (p502.2 448 (by omega)) 2).trans (by rfl)), ((congrFun (p502.2 448 (by omega)) 3).trans (by rfl))⟩ (fun a h1 h2 => (p502.2 a (by omega)).trans rfl)
  refine ok_baload (v := 1) (pc' := 34) i278_33 (ShModel_k7 hS448) (by decide) (ShModel_l7 hS448) (by decide) (rd_na (by omega) (rd_na (by omega) (rd_na (by omega) (Eq.trans (congrFun (p502.2 455 (by omega)) 1) hu2)))) rfl <| ok_kz1 (pc1 := 41) (pc2 := 37) i278_34 (by decide) rfl rfl <| ok_iconst (pc' := 42) i278_41 rfl <| ok_iconst (pc' := 43) i278_42 rfl <| ok_cc i278_43 rfl (cl_v o278 m9_70 na165 rfl rfl (bt rfl) (bt rfl) rfl (by rw [ShModel_k0 hS448, o165])) ln165 (pd165 (aR 448) (aI 0) (aI 2)) <| ok_aloadn (pc' := 1) i165_0 rfl rfl <| ok_getfi (v := 0) (pc' := 4) i165_1 o165 gi9_63 (ShModel_k0 hS448) rd_eq rfl <| ok_kz0 (pc1 := 16) (pc2 := 7) i165_4 (by decide) rfl rfl <| ?_
  refine ok_iloadn (pc' := 8) i165_7 rfl rfl <| ok_kz1 (pc1 := 16) (pc2 := 11) i165_8 (by decide) rfl rfl <| ok_aloadn (pc' := 17) i165_16 rfl rfl <| ok_getfi (v := 0) (pc' := 20) i165_17 o165 gi9_63 (ShModel_k0 hS448) rd_eq rfl <| ok_kz1 (pc1 := 27) (pc2 := 23) i165_20 (by decide) rfl rfl <| ok_iconst (pc' := 28) i165_27 rfl <| ok_iretz i165_28 rt165 (by decide) <| kt_v (pc' := 46) rfl <| ?_
  refine ok_kz1 (pc1 := 51) (pc2 := 49) i278_46 (by decide) rfl rfl <| ok_aloadn (pc' := 52) i278_51 rfl rfl <| ok_bipush (v := 9) (pc' := 54) i278_52 rfl rfl <| ok_iloadn (pc' := 55) i278_54 rfl rfl <| ok_iadd (v := 10) (pc' := 56) i278_55 rfl rfl <| ?_
  refine ok_cn0 (pc' := 59) (d0 := 0) i278_56 rfl (cl_v o278 m9_323 na242 rfl rfl (bt rfl) (bt rfl) rfl (by rw [ShModel_k0 hS448, o242])) ln242 (pd242 (aR 448) (aI 10)) (by omega) (t242 (x1 := 10) hS448 (by omega)) rfl (fun M503 p504 => ?_)
  refine ok_aloadn (pc' := 60) i278_59 rfl rfl <| ok_iconst (pc' := 61) i278_60 rfl <| ok_putfj (kk := 10) (pc' := 64) i278_61 o278 pi278_213 (ShModel_k0 hS448) rfl rfl <| ok_aloadn (pc' := 65) i278_64 rfl rfl <| ok_getfr (r := (448 + 5)) (pc' := 68) i278_65 o278 gr9_22 (ShModel_k0 hS448) (ShModel_r8 hS448) rfl <| ok_iconst (pc' := 69) i278_68 rfl <| ok_iaload (v := (s1 0)) (pc' := 70) i278_69 (ShModel_k5 hS448) (by decide) (ShModel_l5 hS448) (by decide) (rd_na (by omega) (fetched_0 (k := 9 + 1) (x := 10) hKs (by decide) p504 (fun y => by rw [up2_na (by omega), up2_na (by omega), up2_na (by omega), p502.2 454 (by omega)]))) rfl <| ok_ireti i278_70 rt278 <| ?_
  refine kt_v (pc' := 3296) rfl <| ok_istore (pc' := 3298) (ls' := [aR 1, aR 100, aR 448, aR 464, aR 465, aI i, aI 0, aI (s1 0), w8]) i0_3296 (bt rfl) rfl rfl <| ok_aloadn (pc' := 3299) i0_3298 rfl rfl <| ok_cc i0_3299 rfl (cl_v o0 m13_188 na157 rfl rfl (bt rfl) (bt rfl) rfl (by rw [ShModel_k0 hS448, o157])) ln157 (pd157 (aR 448)) <| ok_aloadn (pc' := 1) i157_0 rfl rfl <| ok_getfi (v := 0) (pc' := 4) i157_1 o157 gi9_63 (ShModel_k0 hS448) (rd_ni (by decide) (Eq.trans (congrFun (upM_fr p504 (a := 448) (by omega)) 0) rd_eq)) rfl <| ok_ireti i157_4 rt157 <| kt_v (pc' := 3302) rfl <| ?_
  refine ok_iload (pc' := 3304) i0_3302 rfl rfl <| ok_kc1 (pc1 := 3309) (pc2 := 3307) i0_3304 (by decide) rfl rfl <| ok_iload (pc' := 3311) i0_3309 rfl rfl <| ok_kz0 (pc1 := 3326) (pc2 := 3314) i0_3311 (by decide) rfl rfl <| ok_aloadn (pc' := 3315) i0_3314 rfl rfl <| ok_iconst (pc' := 3316) i0_3315 rfl <| ok_laload (v := (wr (s1 0))) (pc' := 3317) i0_3316 (ShOut_k0 hS464) (ShOut_l0 hS464) (by decide) (rd_na (by omega) (Eq.trans (congrFun (upM_fr p504 (a := 464) (by omega)) 0) (rd_na (by omega) rd_eq))) rfl <| ok_iload (pc' := 3319) i0_3317 rfl rfl <| ?_
  refine ok_i2l (v := (wr (s1 0))) (pc' := 3320) i0_3319 rfl rfl <| ok_lcmp0 (pc' := 3321) i0_3320 rfl <| ok_kz1 (pc1 := 3326) (pc2 := 3324) i0_3321 (by decide) rfl rfl <| ok_goto (pc' := 3329) i0_3326 rfl <| ?_
  exact K _ _ _ _ _ _ hD (by omega) (Inv_mono (Inv_restore (k := 9 + 1) (x := 10) hI hl ⟨hP, hRB, hO, hV, hQ, h40⟩ hH hS hKs hVs h4s p502.1 p502.2 (by decide) rfl p504 rfl) (by omega))
theorem c56_0_o {L n : Nat} {g : AG} {M : AM} {xs : Nat → Int32} {b i : Int} {w6 w7 w8 : AV} {Q : AO → AG → AM → Prop} (hD : HD L n g) (hI : Inv xs b M) (hi : 0 ≤ i ∧ i + 6 ≤ L) (hb : 0 ≤ b ∧ b ≤ 900000) (hl : M 100 6 = 0) (ho : M 1 (i + 1) < 0 ∨ 1 < M 1 (i + 1)) (K : KK L n i b xs Q) :
    Ok 10 0 3273 [aR 1, aR 100, aR 448, aR 464, aR 465, aI i, w6, w7, w8] [] g M Q := by
  have hI0 := hI
  obtain ⟨hA, hld, hl01, q, hc, ⟨nx, sz, hH, hsz⟩, hS⟩ := hI0
  have hH0 := hH
  obtain ⟨⟨hn1, hn0⟩, ⟨hz2, hz0⟩, h10, hHj⟩ := hH0
  obtain ⟨hw0, ⟨bu, by_, hb1, hb13, hbu, hZ, hU⟩, he3, he4, he5, hId, tx, hT, hUt, htl, htr⟩ := hA
  have htz := hT.2.1
  obtain ⟨v1, hv1⟩ : ∃ u9 : Int, M 1 (i + 1) = u9 := ⟨_, rfl⟩
  have hr1 : -2147483648 ≤ v1 ∧ v1 < 2147483648 := hv1 ▸ scr_rg hw0 (i + 1)
  have hS1 := HD_s hD
  have hS100 := HD_y hD
  have hS448 := HD_o hD
  have hS464 := HD_u hD
  have hS465 := HD_ud hD
  rcases (show v1 < 0 ∨ 1 < v1 by omega) with hx | hx
  · refine ok_aloadn (pc' := 3274) i0_3273 rfl rfl <| ok_aloadn (pc' := 3275) i0_3274 rfl rfl <| ok_iload (pc' := 3277) i0_3275 rfl rfl <| ok_iconst (pc' := 3278) i0_3277 rfl <| ok_iadd (v := (i + 1)) (pc' := 3279) i0_3278 rfl rfl <| ok_iaload (v := v1) (pc' := 3280) i0_3279 (ShScr_k0 hS1) (by decide) (ShScr_l0 hS1) (by omega) hv1 rfl <| ok_aloadn (pc' := 3281) i0_3280 rfl rfl <| ok_cc i0_3281 rfl (cl_s o0 m13_364 na328 rfl rfl (bt rfl) (bt rfl) rfl) ln328 (pd328 (aR 100) (aI v1) (aR 464)) <| ?_
    refine ok_aloadn (pc' := 1) i328_0 rfl rfl <| ok_iconst (pc' := 2) i328_1 rfl <| ok_aloadn (pc' := 3) i328_2 rfl rfl <| ok_iloadn (pc' := 4) i328_3 rfl rfl <| ok_cc i328_4 rfl (cl_v o328 m13_170 na155 rfl rfl (bt rfl) (bt rfl) rfl (by rw [ShYard_k0 hS100, o155])) ln155 (pd155 (aR 100) (aI v1)) <| ok_iloadn (pc' := 1) i155_0 rfl rfl <| ok_cc i155_1 rfl (cl_s o155 m0_352 na154 rfl rfl (bt rfl) (bt rfl) rfl) ln154 (pd154 (aI v1)) <| ok_iloadn (pc' := 1) i154_0 rfl rfl <| ?_
    refine ok_zlt (pc1 := 9) (pc2 := 4) i154_1 (by omega) rfl rfl (fun h501 => ?_) (fun h9 => by exfalso; omega)
    refine ok_throw th154_9 (bt rfl) <| kt_x hh155 <| kt_h hn328 hf328_4_10 hr328_12 <| kt_v (pc' := 3284) rfl <| ?_
    refine ok_al hD (fun g hD => ?_)
    have hS448 := HD_o hD
    have hS1 := HD_s hD
    have hS464 := HD_u hD
    have hS465 := HD_ud hD
    refine ok_istore (pc' := 3286) (ls' := [aR 1, aR 100, aR 448, aR 464, aR 465, aI i, aI 1, w7, w8]) i0_3284 (bt rfl) rfl rfl <| ok_aloadn (pc' := 3287) i0_3286 rfl rfl <| ok_aloadn (pc' := 3288) i0_3287 rfl rfl <| ok_iload (pc' := 3290) i0_3288 rfl rfl <| ok_iconst (pc' := 3291) i0_3290 rfl <| ok_iadd (v := (i + 1)) (pc' := 3292) i0_3291 rfl rfl <| ok_iaload (v := v1) (pc' := 3293) i0_3292 (ShScr_k0 hS1) (by decide) (ShScr_l0 hS1) (by omega) hv1 rfl <| ok_cc i0_3293 rfl (cl_v o0 m13_366 na278 rfl rfl (bt rfl) (bt rfl) rfl (by rw [ShModel_k0 hS448, o278])) ln278 (pd278 (aR 448) (aI v1)) <| ?_
    refine ok_aloadn (pc' := 1) i278_0 rfl rfl <| ok_iconst (pc' := 2) i278_1 rfl <| ok_putfj (kk := 0) (pc' := 5) i278_2 o278 pi278_63 (ShModel_k0 hS448) rfl rfl <| ok_aloadn (pc' := 6) i278_5 rfl rfl <| ok_iloadn (pc' := 7) i278_6 rfl rfl <| ok_iconst (pc' := 8) i278_7 rfl <| ok_iconst (pc' := 9) i278_8 rfl <| ok_cc i278_9 rfl (cl_s o278 m9_140 na164 rfl rfl (bt rfl) (bt rfl) rfl) ln164 (pd164 (aI v1) (aI 0) (aI 1)) <| ?_
    refine ok_iloadn (pc' := 1) i164_0 rfl rfl <| ok_iloadn (pc' := 2) i164_1 rfl rfl <| ?_
    refine ok_clt (pc1 := 14) (pc2 := 5) i164_2 (by omega) rfl rfl (fun h502 => ?_) (fun h9 => by exfalso; omega)
    refine ok_iconst (pc' := 15) i164_14 rfl <| ok_iretz i164_15 rt164 (by decide) <| kt_v (pc' := 12) rfl <| ok_kz0 (pc1 := 19) (pc2 := 15) i278_12 (by decide) rfl rfl <| ok_iconst (pc' := 16) i278_15 rfl <| ok_goto (pc' := 20) i278_16 rfl <| ok_iconst (pc' := 21) i278_20 rfl <| ok_cc i278_21 rfl (cl_v o278 m9_70 na165 rfl rfl (bt rfl) (bt rfl) rfl (by rw [ShModel_k0 hS448, o165])) ln165 (pd165 (aR 448) (aI 1) (aI 1)) <| ?_
    refine ok_aloadn (pc' := 1) i165_0 rfl rfl <| ok_getfi (v := 0) (pc' := 4) i165_1 o165 gi9_63 (ShModel_k0 hS448) rd_eq rfl <| ok_kz0 (pc1 := 16) (pc2 := 7) i165_4 (by decide) rfl rfl <| ok_iloadn (pc' := 8) i165_7 rfl rfl <| ok_kz0 (pc1 := 16) (pc2 := 11) i165_8 (by decide) rfl rfl <| ok_aloadn (pc' := 12) i165_11 rfl rfl <| ok_iloadn (pc' := 13) i165_12 rfl rfl <| ok_putfj (kk := 0) (pc' := 16) i165_13 o165 pi165_63 (ShModel_k0 hS448) rfl rfl <| ?_
    refine ok_aloadn (pc' := 17) i165_16 rfl rfl <| ok_getfi (v := 1) (pc' := 20) i165_17 o165 gi9_63 (ShModel_k0 hS448) rd_eq rfl <| ok_kz0 (pc1 := 27) (pc2 := 23) i165_20 (by decide) rfl rfl <| ok_iconst (pc' := 24) i165_23 rfl <| ok_goto (pc' := 28) i165_24 rfl <| ok_iretz i165_28 rt165 (by decide) <| kt_v (pc' := 24) rfl <| ok_kz1 (pc1 := 49) (pc2 := 27) i278_24 (by decide) rfl rfl <| ?_
    refine ok_iconst (pc' := 50) i278_49 rfl <| ok_ireti i278_50 rt278 <| kt_v (pc' := 3296) rfl <| ok_istore (pc' := 3298) (ls' := [aR 1, aR 100, aR 448, aR 464, aR 465, aI i, aI 1, aI 0, w8]) i0_3296 (bt rfl) rfl rfl <| ok_aloadn (pc' := 3299) i0_3298 rfl rfl <| ok_cc i0_3299 rfl (cl_v o0 m13_188 na157 rfl rfl (bt rfl) (bt rfl) rfl (by rw [ShModel_k0 hS448, o157])) ln157 (pd157 (aR 448)) <| ok_aloadn (pc' := 1) i157_0 rfl rfl <| ok_getfi (v := 1) (pc' := 4) i157_1 o157 gi9_63 (ShModel_k0 hS448) rd_eq rfl <| ?_
    refine ok_ireti i157_4 rt157 <| kt_v (pc' := 3302) rfl <| ok_iload (pc' := 3304) i0_3302 rfl rfl <| ok_kc1 (pc1 := 3309) (pc2 := 3307) i0_3304 (by decide) rfl rfl <| ok_iload (pc' := 3311) i0_3309 rfl rfl <| ok_kz1 (pc1 := 3326) (pc2 := 3314) i0_3311 (by decide) rfl rfl <| ok_goto (pc' := 3329) i0_3326 rfl <| ?_
    exact K _ _ _ _ _ _ hD (by omega) (Inv_mono (Inv_same hI (Same.thr (Same.thr Same.rfl))) (by omega))
  · refine ok_aloadn (pc' := 3274) i0_3273 rfl rfl <| ok_aloadn (pc' := 3275) i0_3274 rfl rfl <| ok_iload (pc' := 3277) i0_3275 rfl rfl <| ok_iconst (pc' := 3278) i0_3277 rfl <| ok_iadd (v := (i + 1)) (pc' := 3279) i0_3278 rfl rfl <| ok_iaload (v := v1) (pc' := 3280) i0_3279 (ShScr_k0 hS1) (by decide) (ShScr_l0 hS1) (by omega) hv1 rfl <| ok_aloadn (pc' := 3281) i0_3280 rfl rfl <| ok_cc i0_3281 rfl (cl_s o0 m13_364 na328 rfl rfl (bt rfl) (bt rfl) rfl) ln328 (pd328 (aR 100) (aI v1) (aR 464)) <| ?_
    refine ok_aloadn (pc' := 1) i328_0 rfl rfl <| ok_iconst (pc' := 2) i328_1 rfl <| ok_aloadn (pc' := 3) i328_2 rfl rfl <| ok_iloadn (pc' := 4) i328_3 rfl rfl <| ok_cc i328_4 rfl (cl_v o328 m13_170 na155 rfl rfl (bt rfl) (bt rfl) rfl (by rw [ShYard_k0 hS100, o155])) ln155 (pd155 (aR 100) (aI v1)) <| ok_iloadn (pc' := 1) i155_0 rfl rfl <| ok_cc i155_1 rfl (cl_s o155 m0_352 na154 rfl rfl (bt rfl) (bt rfl) rfl) ln154 (pd154 (aI v1)) <| ok_iloadn (pc' := 1) i154_0 rfl rfl <| ?_
    refine ok_zlt (pc1 := 9) (pc2 := 4) i154_1 (by omega) rfl rfl (fun h9 => by exfalso; omega) (fun h501 => ?_)
    refine ok_iloadn (pc' := 5) i154_4 rfl rfl <| ok_iconst (pc' := 6) i154_5 rfl <| ?_
    refine ok_clt (pc1 := 20) (pc2 := 9) i154_6 (by omega) rfl rfl (fun h9 => by exfalso; omega) (fun h502 => ?_)
    refine ok_throw th154_9 (bt rfl) <| kt_x hh155 <| kt_h hn328 hf328_4_10 hr328_12 <| kt_v (pc' := 3284) rfl <| ?_
    refine ok_al hD (fun g hD => ?_)
    have hS448 := HD_o hD
    have hS1 := HD_s hD
    have hS464 := HD_u hD
    have hS465 := HD_ud hD
    refine ok_istore (pc' := 3286) (ls' := [aR 1, aR 100, aR 448, aR 464, aR 465, aI i, aI 1, w7, w8]) i0_3284 (bt rfl) rfl rfl <| ok_aloadn (pc' := 3287) i0_3286 rfl rfl <| ok_aloadn (pc' := 3288) i0_3287 rfl rfl <| ok_iload (pc' := 3290) i0_3288 rfl rfl <| ok_iconst (pc' := 3291) i0_3290 rfl <| ok_iadd (v := (i + 1)) (pc' := 3292) i0_3291 rfl rfl <| ok_iaload (v := v1) (pc' := 3293) i0_3292 (ShScr_k0 hS1) (by decide) (ShScr_l0 hS1) (by omega) hv1 rfl <| ok_cc i0_3293 rfl (cl_v o0 m13_366 na278 rfl rfl (bt rfl) (bt rfl) rfl (by rw [ShModel_k0 hS448, o278])) ln278 (pd278 (aR 448) (aI v1)) <| ?_
    refine ok_aloadn (pc' := 1) i278_0 rfl rfl <| ok_iconst (pc' := 2) i278_1 rfl <| ok_putfj (kk := 0) (pc' := 5) i278_2 o278 pi278_63 (ShModel_k0 hS448) rfl rfl <| ok_aloadn (pc' := 6) i278_5 rfl rfl <| ok_iloadn (pc' := 7) i278_6 rfl rfl <| ok_iconst (pc' := 8) i278_7 rfl <| ok_iconst (pc' := 9) i278_8 rfl <| ok_cc i278_9 rfl (cl_s o278 m9_140 na164 rfl rfl (bt rfl) (bt rfl) rfl) ln164 (pd164 (aI v1) (aI 0) (aI 1)) <| ?_
    refine ok_iloadn (pc' := 1) i164_0 rfl rfl <| ok_iloadn (pc' := 2) i164_1 rfl rfl <| ?_
    refine ok_clt (pc1 := 14) (pc2 := 5) i164_2 (by omega) rfl rfl (fun h9 => by exfalso; omega) (fun h503 => ?_)
    refine ok_iloadn (pc' := 6) i164_5 rfl rfl <| ok_iloadn (pc' := 7) i164_6 rfl rfl <| ?_
    refine ok_cgt (pc1 := 14) (pc2 := 10) i164_7 (by omega) rfl rfl (fun h504 => ?_) (fun h9 => by exfalso; omega)
    refine ok_iconst (pc' := 15) i164_14 rfl <| ok_iretz i164_15 rt164 (by decide) <| kt_v (pc' := 12) rfl <| ok_kz0 (pc1 := 19) (pc2 := 15) i278_12 (by decide) rfl rfl <| ok_iconst (pc' := 16) i278_15 rfl <| ok_goto (pc' := 20) i278_16 rfl <| ok_iconst (pc' := 21) i278_20 rfl <| ok_cc i278_21 rfl (cl_v o278 m9_70 na165 rfl rfl (bt rfl) (bt rfl) rfl (by rw [ShModel_k0 hS448, o165])) ln165 (pd165 (aR 448) (aI 1) (aI 1)) <| ?_
    refine ok_aloadn (pc' := 1) i165_0 rfl rfl <| ok_getfi (v := 0) (pc' := 4) i165_1 o165 gi9_63 (ShModel_k0 hS448) rd_eq rfl <| ok_kz0 (pc1 := 16) (pc2 := 7) i165_4 (by decide) rfl rfl <| ok_iloadn (pc' := 8) i165_7 rfl rfl <| ok_kz0 (pc1 := 16) (pc2 := 11) i165_8 (by decide) rfl rfl <| ok_aloadn (pc' := 12) i165_11 rfl rfl <| ok_iloadn (pc' := 13) i165_12 rfl rfl <| ok_putfj (kk := 0) (pc' := 16) i165_13 o165 pi165_63 (ShModel_k0 hS448) rfl rfl <| ?_
    refine ok_aloadn (pc' := 17) i165_16 rfl rfl <| ok_getfi (v := 1) (pc' := 20) i165_17 o165 gi9_63 (ShModel_k0 hS448) rd_eq rfl <| ok_kz0 (pc1 := 27) (pc2 := 23) i165_20 (by decide) rfl rfl <| ok_iconst (pc' := 24) i165_23 rfl <| ok_goto (pc' := 28) i165_24 rfl <| ok_iretz i165_28 rt165 (by decide) <| kt_v (pc' := 24) rfl <| ok_kz1 (pc1 := 49) (pc2 := 27) i278_24 (by decide) rfl rfl <| ?_
    refine ok_iconst (pc' := 50) i278_49 rfl <| ok_ireti i278_50 rt278 <| kt_v (pc' := 3296) rfl <| ok_istore (pc' := 3298) (ls' := [aR 1, aR 100, aR 448, aR 464, aR 465, aI i, aI 1, aI 0, w8]) i0_3296 (bt rfl) rfl rfl <| ok_aloadn (pc' := 3299) i0_3298 rfl rfl <| ok_cc i0_3299 rfl (cl_v o0 m13_188 na157 rfl rfl (bt rfl) (bt rfl) rfl (by rw [ShModel_k0 hS448, o157])) ln157 (pd157 (aR 448)) <| ok_aloadn (pc' := 1) i157_0 rfl rfl <| ok_getfi (v := 1) (pc' := 4) i157_1 o157 gi9_63 (ShModel_k0 hS448) rd_eq rfl <| ?_
    refine ok_ireti i157_4 rt157 <| kt_v (pc' := 3302) rfl <| ok_iload (pc' := 3304) i0_3302 rfl rfl <| ok_kc1 (pc1 := 3309) (pc2 := 3307) i0_3304 (by decide) rfl rfl <| ok_iload (pc' := 3311) i0_3309 rfl rfl <| ok_kz1 (pc1 := 3326) (pc2 := 3314) i0_3311 (by decide) rfl rfl <| ok_goto (pc' := 3329) i0_3326 rfl <| ?_
    exact K _ _ _ _ _ _ hD (by omega) (Inv_mono (Inv_same hI (Same.thr (Same.thr Same.rfl))) (by omega))
theorem c56_1_o {L n : Nat} {g : AG} {M : AM} {xs : Nat → Int32} {b i : Int} {w6 w7 w8 : AV} {Q : AO → AG → AM → Prop} (hD : HD L n g) (hI : Inv xs b M) (hi : 0 ≤ i ∧ i + 6 ≤ L) (hb : 0 ≤ b ∧ b ≤ 900000) (hl : M 100 6 = 1) (ho : M 1 (i + 1) < 0 ∨ 1 < M 1 (i + 1)) (K : KK L n i b xs Q) :
    Ok 10 0 3273 [aR 1, aR 100, aR 448, aR 464, aR 465, aI i, w6, w7, w8] [] g M Q := by
  have hI0 := hI
  obtain ⟨hA, hld, hl01, q, hc, ⟨nx, sz, hH, hsz⟩, hS⟩ := hI0
  have hH0 := hH
  obtain ⟨⟨hn1, hn0⟩, ⟨hz2, hz0⟩, h10, hHj⟩ := hH0
  obtain ⟨hw0, ⟨bu, by_, hb1, hb13, hbu, hZ, hU⟩, he3, he4, he5, hId, tx, hT, hUt, htl, htr⟩ := hA
  have htz := hT.2.1
  obtain ⟨s, hP, hRB, hO, hV, hQ, h40⟩ := hc hl
  have ys3 := V_3 hV
  have ys4 := V_4 hV
  have yq0 := Q_0 hQ
  have yq1 := Q_1 hQ
  obtain ⟨v1, hv1⟩ : ∃ u9 : Int, M 1 (i + 1) = u9 := ⟨_, rfl⟩
  have hr1 : -2147483648 ≤ v1 ∧ v1 < 2147483648 := hv1 ▸ scr_rg hw0 (i + 1)
  have hS1 := HD_s hD
  have hS100 := HD_y hD
  have hS448 := HD_o hD
  have hS464 := HD_u hD
  have hS465 := HD_ud hD
  rcases (show v1 < 0 ∨ 1 < v1 by omega) with hx | hx
  · refine ok_aloadn (pc' := 3274) i0_3273 rfl rfl <| ok_aloadn (pc' := 3275) i0_3274 rfl rfl <| ok_iload (pc' := 3277) i0_3275 rfl rfl <| ok_iconst (pc' := 3278) i0_3277 rfl <| ok_iadd (v := (i + 1)) (pc' := 3279) i0_3278 rfl rfl <| ok_iaload (v := v1) (pc' := 3280) i0_3279 (ShScr_k0 hS1) (by decide) (ShScr_l0 hS1) (by omega) hv1 rfl <| ok_aloadn (pc' := 3281) i0_3280 rfl rfl <| ok_cc i0_3281 rfl (cl_s o0 m13_364 na328 rfl rfl (bt rfl) (bt rfl) rfl) ln328 (pd328 (aR 100) (aI v1) (aR 464)) <| ?_
    refine ok_aloadn (pc' := 1) i328_0 rfl rfl <| ok_iconst (pc' := 2) i328_1 rfl <| ok_aloadn (pc' := 3) i328_2 rfl rfl <| ok_iloadn (pc' := 4) i328_3 rfl rfl <| ok_cc i328_4 rfl (cl_v o328 m13_170 na155 rfl rfl (bt rfl) (bt rfl) rfl (by rw [ShYard_k0 hS100, o155])) ln155 (pd155 (aR 100) (aI v1)) <| ok_iloadn (pc' := 1) i155_0 rfl rfl <| ok_cc i155_1 rfl (cl_s o155 m0_352 na154 rfl rfl (bt rfl) (bt rfl) rfl) ln154 (pd154 (aI v1)) <| ok_iloadn (pc' := 1) i154_0 rfl rfl <| ?_
    refine ok_zlt (pc1 := 9) (pc2 := 4) i154_1 (by omega) rfl rfl (fun h501 => ?_) (fun h9 => by exfalso; omega)
    refine ok_throw th154_9 (bt rfl) <| kt_x hh155 <| kt_h hn328 hf328_4_10 hr328_12 <| kt_v (pc' := 3284) rfl <| ?_
    refine ok_al hD (fun g hD => ?_)
    have hS448 := HD_o hD
    have hS1 := HD_s hD
    have hS464 := HD_u hD
    have hS465 := HD_ud hD
    refine ok_istore (pc' := 3286) (ls' := [aR 1, aR 100, aR 448, aR 464, aR 465, aI i, aI 1, w7, w8]) i0_3284 (bt rfl) rfl rfl <| ok_aloadn (pc' := 3287) i0_3286 rfl rfl <| ok_aloadn (pc' := 3288) i0_3287 rfl rfl <| ok_iload (pc' := 3290) i0_3288 rfl rfl <| ok_iconst (pc' := 3291) i0_3290 rfl <| ok_iadd (v := (i + 1)) (pc' := 3292) i0_3291 rfl rfl <| ok_iaload (v := v1) (pc' := 3293) i0_3292 (ShScr_k0 hS1) (by decide) (ShScr_l0 hS1) (by omega) hv1 rfl <| ok_cc i0_3293 rfl (cl_v o0 m13_366 na278 rfl rfl (bt rfl) (bt rfl) rfl (by rw [ShModel_k0 hS448, o278])) ln278 (pd278 (aR 448) (aI v1)) <| ?_
    refine ok_aloadn (pc' := 1) i278_0 rfl rfl <| ok_iconst (pc' := 2) i278_1 rfl <| ok_putfj (kk := 0) (pc' := 5) i278_2 o278 pi278_63 (ShModel_k0 hS448) rfl rfl <| ok_aloadn (pc' := 6) i278_5 rfl rfl <| ok_iloadn (pc' := 7) i278_6 rfl rfl <| ok_iconst (pc' := 8) i278_7 rfl <| ok_iconst (pc' := 9) i278_8 rfl <| ok_cc i278_9 rfl (cl_s o278 m9_140 na164 rfl rfl (bt rfl) (bt rfl) rfl) ln164 (pd164 (aI v1) (aI 0) (aI 1)) <| ?_
    refine ok_iloadn (pc' := 1) i164_0 rfl rfl <| ok_iloadn (pc' := 2) i164_1 rfl rfl <| ?_
    refine ok_clt (pc1 := 14) (pc2 := 5) i164_2 (by omega) rfl rfl (fun h502 => ?_) (fun h9 => by exfalso; omega)
    refine ok_iconst (pc' := 15) i164_14 rfl <| ok_iretz i164_15 rt164 (by decide) <| kt_v (pc' := 12) rfl <| ok_kz0 (pc1 := 19) (pc2 := 15) i278_12 (by decide) rfl rfl <| ok_iconst (pc' := 16) i278_15 rfl <| ok_goto (pc' := 20) i278_16 rfl <| ok_iconst (pc' := 21) i278_20 rfl <| ok_cc i278_21 rfl (cl_v o278 m9_70 na165 rfl rfl (bt rfl) (bt rfl) rfl (by rw [ShModel_k0 hS448, o165])) ln165 (pd165 (aR 448) (aI 1) (aI 1)) <| ?_
    refine ok_aloadn (pc' := 1) i165_0 rfl rfl <| ok_getfi (v := 0) (pc' := 4) i165_1 o165 gi9_63 (ShModel_k0 hS448) rd_eq rfl <| ok_kz0 (pc1 := 16) (pc2 := 7) i165_4 (by decide) rfl rfl <| ok_iloadn (pc' := 8) i165_7 rfl rfl <| ok_kz0 (pc1 := 16) (pc2 := 11) i165_8 (by decide) rfl rfl <| ok_aloadn (pc' := 12) i165_11 rfl rfl <| ok_iloadn (pc' := 13) i165_12 rfl rfl <| ok_putfj (kk := 0) (pc' := 16) i165_13 o165 pi165_63 (ShModel_k0 hS448) rfl rfl <| ?_
    refine ok_aloadn (pc' := 17) i165_16 rfl rfl <| ok_getfi (v := 1) (pc' := 20) i165_17 o165 gi9_63 (ShModel_k0 hS448) rd_eq rfl <| ok_kz0 (pc1 := 27) (pc2 := 23) i165_20 (by decide) rfl rfl <| ok_iconst (pc' := 24) i165_23 rfl <| ok_goto (pc' := 28) i165_24 rfl <| ok_iretz i165_28 rt165 (by decide) <| kt_v (pc' := 24) rfl <| ok_kz1 (pc1 := 49) (pc2 := 27) i278_24 (by decide) rfl rfl <| ?_
    refine ok_iconst (pc' := 50) i278_49 rfl <| ok_ireti i278_50 rt278 <| kt_v (pc' := 3296) rfl <| ok_istore (pc' := 3298) (ls' := [aR 1, aR 100, aR 448, aR 464, aR 465, aI i, aI 1, aI 0, w8]) i0_3296 (bt rfl) rfl rfl <| ok_aloadn (pc' := 3299) i0_3298 rfl rfl <| ok_cc i0_3299 rfl (cl_v o0 m13_188 na157 rfl rfl (bt rfl) (bt rfl) rfl (by rw [ShModel_k0 hS448, o157])) ln157 (pd157 (aR 448)) <| ok_aloadn (pc' := 1) i157_0 rfl rfl <| ok_getfi (v := 1) (pc' := 4) i157_1 o157 gi9_63 (ShModel_k0 hS448) rd_eq rfl <| ?_
    refine ok_ireti i157_4 rt157 <| kt_v (pc' := 3302) rfl <| ok_iload (pc' := 3304) i0_3302 rfl rfl <| ok_kc1 (pc1 := 3309) (pc2 := 3307) i0_3304 (by decide) rfl rfl <| ok_iload (pc' := 3311) i0_3309 rfl rfl <| ok_kz1 (pc1 := 3326) (pc2 := 3314) i0_3311 (by decide) rfl rfl <| ok_goto (pc' := 3329) i0_3326 rfl <| ?_
    exact K _ _ _ _ _ _ hD (by omega) (Inv_mono (Inv_same hI (Same.thr (Same.thr Same.rfl))) (by omega))
  · refine ok_aloadn (pc' := 3274) i0_3273 rfl rfl <| ok_aloadn (pc' := 3275) i0_3274 rfl rfl <| ok_iload (pc' := 3277) i0_3275 rfl rfl <| ok_iconst (pc' := 3278) i0_3277 rfl <| ok_iadd (v := (i + 1)) (pc' := 3279) i0_3278 rfl rfl <| ok_iaload (v := v1) (pc' := 3280) i0_3279 (ShScr_k0 hS1) (by decide) (ShScr_l0 hS1) (by omega) hv1 rfl <| ok_aloadn (pc' := 3281) i0_3280 rfl rfl <| ok_cc i0_3281 rfl (cl_s o0 m13_364 na328 rfl rfl (bt rfl) (bt rfl) rfl) ln328 (pd328 (aR 100) (aI v1) (aR 464)) <| ?_
    refine ok_aloadn (pc' := 1) i328_0 rfl rfl <| ok_iconst (pc' := 2) i328_1 rfl <| ok_aloadn (pc' := 3) i328_2 rfl rfl <| ok_iloadn (pc' := 4) i328_3 rfl rfl <| ok_cc i328_4 rfl (cl_v o328 m13_170 na155 rfl rfl (bt rfl) (bt rfl) rfl (by rw [ShYard_k0 hS100, o155])) ln155 (pd155 (aR 100) (aI v1)) <| ok_iloadn (pc' := 1) i155_0 rfl rfl <| ok_cc i155_1 rfl (cl_s o155 m0_352 na154 rfl rfl (bt rfl) (bt rfl) rfl) ln154 (pd154 (aI v1)) <| ok_iloadn (pc' := 1) i154_0 rfl rfl <| ?_
    refine ok_zlt (pc1 := 9) (pc2 := 4) i154_1 (by omega) rfl rfl (fun h9 => by exfalso; omega) (fun h501 => ?_)
    refine ok_iloadn (pc' := 5) i154_4 rfl rfl <| ok_iconst (pc' := 6) i154_5 rfl <| ?_
    refine ok_clt (pc1 := 20) (pc2 := 9) i154_6 (by omega) rfl rfl (fun h9 => by exfalso; omega) (fun h502 => ?_)
    refine ok_throw th154_9 (bt rfl) <| kt_x hh155 <| kt_h hn328 hf328_4_10 hr328_12 <| kt_v (pc' := 3284) rfl <| ?_
    refine ok_al hD (fun g hD => ?_)
    have hS448 := HD_o hD
    have hS1 := HD_s hD
    have hS464 := HD_u hD
    have hS465 := HD_ud hD
    refine ok_istore (pc' := 3286) (ls' := [aR 1, aR 100, aR 448, aR 464, aR 465, aI i, aI 1, w7, w8]) i0_3284 (bt rfl) rfl rfl <| ok_aloadn (pc' := 3287) i0_3286 rfl rfl <| ok_aloadn (pc' := 3288) i0_3287 rfl rfl <| ok_iload (pc' := 3290) i0_3288 rfl rfl <| ok_iconst (pc' := 3291) i0_3290 rfl <| ok_iadd (v := (i + 1)) (pc' := 3292) i0_3291 rfl rfl <| ok_iaload (v := v1) (pc' := 3293) i0_3292 (ShScr_k0 hS1) (by decide) (ShScr_l0 hS1) (by omega) hv1 rfl <| ok_cc i0_3293 rfl (cl_v o0 m13_366 na278 rfl rfl (bt rfl) (bt rfl) rfl (by rw [ShModel_k0 hS448, o278])) ln278 (pd278 (aR 448) (aI v1)) <| ?_
    refine ok_aloadn (pc' := 1) i278_0 rfl rfl <| ok_iconst (pc' := 2) i278_1 rfl <| ok_putfj (kk := 0) (pc' := 5) i278_2 o278 pi278_63 (ShModel_k0 hS448) rfl rfl <| ok_aloadn (pc' := 6) i278_5 rfl rfl <| ok_iloadn (pc' := 7) i278_6 rfl rfl <| ok_iconst (pc' := 8) i278_7 rfl <| ok_iconst (pc' := 9) i278_8 rfl <| ok_cc i278_9 rfl (cl_s o278 m9_140 na164 rfl rfl (bt rfl) (bt rfl) rfl) ln164 (pd164 (aI v1) (aI 0) (aI 1)) <| ?_
    refine ok_iloadn (pc' := 1) i164_0 rfl rfl <| ok_iloadn (pc' := 2) i164_1 rfl rfl <| ?_
    refine ok_clt (pc1 := 14) (pc2 := 5) i164_2 (by omega) rfl rfl (fun h9 => by exfalso; omega) (fun h503 => ?_)
    refine ok_iloadn (pc' := 6) i164_5 rfl rfl <| ok_iloadn (pc' := 7) i164_6 rfl rfl <| ?_
    refine ok_cgt (pc1 := 14) (pc2 := 10) i164_7 (by omega) rfl rfl (fun h504 => ?_) (fun h9 => by exfalso; omega)
    refine ok_iconst (pc' := 15) i164_14 rfl <| ok_iretz i164_15 rt164 (by decide) <| kt_v (pc' := 12) rfl <| ok_kz0 (pc1 := 19) (pc2 := 15) i278_12 (by decide) rfl rfl <| ok_iconst (pc' := 16) i278_15 rfl <| ok_goto (pc' := 20) i278_16 rfl <| ok_iconst (pc' := 21) i278_20 rfl <| ok_cc i278_21 rfl (cl_v o278 m9_70 na165 rfl rfl (bt rfl) (bt rfl) rfl (by rw [ShModel_k0 hS448, o165])) ln165 (pd165 (aR 448) (aI 1) (aI 1)) <| ?_
    refine ok_aloadn (pc' := 1) i165_0 rfl rfl <| ok_getfi (v := 0) (pc' := 4) i165_1 o165 gi9_63 (ShModel_k0 hS448) rd_eq rfl <| ok_kz0 (pc1 := 16) (pc2 := 7) i165_4 (by decide) rfl rfl <| ok_iloadn (pc' := 8) i165_7 rfl rfl <| ok_kz0 (pc1 := 16) (pc2 := 11) i165_8 (by decide) rfl rfl <| ok_aloadn (pc' := 12) i165_11 rfl rfl <| ok_iloadn (pc' := 13) i165_12 rfl rfl <| ok_putfj (kk := 0) (pc' := 16) i165_13 o165 pi165_63 (ShModel_k0 hS448) rfl rfl <| ?_
    refine ok_aloadn (pc' := 17) i165_16 rfl rfl <| ok_getfi (v := 1) (pc' := 20) i165_17 o165 gi9_63 (ShModel_k0 hS448) rd_eq rfl <| ok_kz0 (pc1 := 27) (pc2 := 23) i165_20 (by decide) rfl rfl <| ok_iconst (pc' := 24) i165_23 rfl <| ok_goto (pc' := 28) i165_24 rfl <| ok_iretz i165_28 rt165 (by decide) <| kt_v (pc' := 24) rfl <| ok_kz1 (pc1 := 49) (pc2 := 27) i278_24 (by decide) rfl rfl <| ?_
    refine ok_iconst (pc' := 50) i278_49 rfl <| ok_ireti i278_50 rt278 <| kt_v (pc' := 3296) rfl <| ok_istore (pc' := 3298) (ls' := [aR 1, aR 100, aR 448, aR 464, aR 465, aI i, aI 1, aI 0, w8]) i0_3296 (bt rfl) rfl rfl <| ok_aloadn (pc' := 3299) i0_3298 rfl rfl <| ok_cc i0_3299 rfl (cl_v o0 m13_188 na157 rfl rfl (bt rfl) (bt rfl) rfl (by rw [ShModel_k0 hS448, o157])) ln157 (pd157 (aR 448)) <| ok_aloadn (pc' := 1) i157_0 rfl rfl <| ok_getfi (v := 1) (pc' := 4) i157_1 o157 gi9_63 (ShModel_k0 hS448) rd_eq rfl <| ?_
    refine ok_ireti i157_4 rt157 <| kt_v (pc' := 3302) rfl <| ok_iload (pc' := 3304) i0_3302 rfl rfl <| ok_kc1 (pc1 := 3309) (pc2 := 3307) i0_3304 (by decide) rfl rfl <| ok_iload (pc' := 3311) i0_3309 rfl rfl <| ok_kz1 (pc1 := 3326) (pc2 := 3314) i0_3311 (by decide) rfl rfl <| ok_goto (pc' := 3329) i0_3326 rfl <| ?_
    exact K _ _ _ _ _ _ hD (by omega) (Inv_mono (Inv_same hI (Same.thr (Same.thr Same.rfl))) (by omega))
theorem c55_1_o {L n : Nat} {g : AG} {M : AM} {xs : Nat → Int32} {b i : Int} {w6 w7 w8 : AV} {Q : AO → AG → AM → Prop} (hD : HD L n g) (hI : Inv xs b M) (hi : 0 ≤ i ∧ i + 6 ≤ L) (hb : 0 ≤ b ∧ b ≤ 900000) (hl : M 100 6 = 1) (ho : M 1 (i + 1) < 0 ∨ 1 < M 1 (i + 1)) (K : KK L n i b xs Q) :
    Ok 10 0 3217 [aR 1, aR 100, aR 448, aR 464, aR 465, aI i, w6, w7, w8] [] g M Q := by
  have hI0 := hI
  obtain ⟨hA, hld, hl01, q, hc, ⟨nx, sz, hH, hsz⟩, hS⟩ := hI0
  have hH0 := hH
  obtain ⟨⟨hn1, hn0⟩, ⟨hz2, hz0⟩, h10, hHj⟩ := hH0
  obtain ⟨hw0, ⟨bu, by_, hb1, hb13, hbu, hZ, hU⟩, he3, he4, he5, hId, tx, hT, hUt, htl, htr⟩ := hA
  have htz := hT.2.1
  obtain ⟨s, hP, hRB, hO, hV, hQ, h40⟩ := hc hl
  have ys3 := V_3 hV
  have ys4 := V_4 hV
  have yq0 := Q_0 hQ
  have yq1 := Q_1 hQ
  obtain ⟨v1, hv1⟩ : ∃ u9 : Int, M 1 (i + 1) = u9 := ⟨_, rfl⟩
  have hr1 : -2147483648 ≤ v1 ∧ v1 < 2147483648 := hv1 ▸ scr_rg hw0 (i + 1)
  have hS1 := HD_s hD
  have hS100 := HD_y hD
  have hS448 := HD_o hD
  have hS464 := HD_u hD
  have hS465 := HD_ud hD
  rcases (show v1 < 0 ∨ 1 < v1 by omega) with hx | hx
  · refine ok_aloadn (pc' := 3218) i0_3217 rfl rfl <| ok_aloadn (pc' := 3219) i0_3218 rfl rfl <| ok_iload (pc' := 3221) i0_3219 rfl rfl <| ok_iconst (pc' := 3222) i0_3221 rfl <| ok_iadd (v := (i + 1)) (pc' := 3223) i0_3222 rfl rfl <| ok_iaload (v := v1) (pc' := 3224) i0_3223 (ShScr_k0 hS1) (by decide) (ShScr_l0 hS1) (by omega) hv1 rfl <| ok_aloadn (pc' := 3225) i0_3224 rfl rfl <| ok_cc i0_3225 rfl (cl_s o0 m13_361 na327 rfl rfl (bt rfl) (bt rfl) rfl) ln327 (pd327 (aR 100) (aI v1) (aR 464)) <| ?_
    refine ok_aloadn (pc' := 1) i327_0 rfl rfl <| ok_iconst (pc' := 2) i327_1 rfl <| ok_aloadn (pc' := 3) i327_2 rfl rfl <| ok_iloadn (pc' := 4) i327_3 rfl rfl <| ok_cc i327_4 rfl (cl_v o327 m13_167 na153 rfl rfl (bt rfl) (bt rfl) rfl (by rw [ShYard_k0 hS100, o153])) ln153 (pd153 (aR 100) (aI v1)) <| ok_aloadn (pc' := 1) i153_0 rfl rfl <| ok_cc i153_1 rfl (cl_v o153 m0_132 na99 rfl rfl (bt rfl) (bt rfl) rfl (by rw [ShYard_k0 hS100, o99])) ln99 (pd99 (aR 100)) <| ok_aloadn (pc' := 1) i99_0 rfl rfl <| ?_
    refine ok_getfi (v := 1) (pc' := 4) i99_1 o99 gi0_268 (ShYard_k0 hS100) hl rfl <| ok_kz1 (pc1 := 18) (pc2 := 7) i99_4 (by decide) rfl rfl <| ok_vret i99_18 rt99 <| kt_0 (pc' := 4) rfl <| ok_iloadn (pc' := 5) i153_4 rfl rfl <| ok_cc i153_5 rfl (cl_s o153 m0_352 na154 rfl rfl (bt rfl) (bt rfl) rfl) ln154 (pd154 (aI v1)) <| ok_iloadn (pc' := 1) i154_0 rfl rfl <| ?_
    refine ok_zlt (pc1 := 9) (pc2 := 4) i154_1 (by omega) rfl rfl (fun h501 => ?_) (fun h9 => by exfalso; omega)
    refine ok_throw th154_9 (bt rfl) <| kt_x hh153 <| kt_h hn327 hf327_4_10 hr327_15 <| kt_v (pc' := 3228) rfl <| ?_
    refine ok_al hD (fun g hD => ?_)
    have hS448 := HD_o hD
    have hS1 := HD_s hD
    have hS464 := HD_u hD
    have hS465 := HD_ud hD
    refine ok_istore (pc' := 3230) (ls' := [aR 1, aR 100, aR 448, aR 464, aR 465, aI i, aI 2, w7, w8]) i0_3228 (bt rfl) rfl rfl <| ok_aloadn (pc' := 3231) i0_3230 rfl rfl <| ok_aloadn (pc' := 3232) i0_3231 rfl rfl <| ok_iload (pc' := 3234) i0_3232 rfl rfl <| ok_iconst (pc' := 3235) i0_3234 rfl <| ok_iadd (v := (i + 1)) (pc' := 3236) i0_3235 rfl rfl <| ok_iaload (v := v1) (pc' := 3237) i0_3236 (ShScr_k0 hS1) (by decide) (ShScr_l0 hS1) (by omega) hv1 rfl <| ok_cc i0_3237 rfl (cl_v o0 m13_363 na277 rfl rfl (bt rfl) (bt rfl) rfl (by rw [ShModel_k0 hS448, o277])) ln277 (pd277 (aR 448) (aI v1)) <| ?_
    refine ok_aloadn (pc' := 1) i277_0 rfl rfl <| ok_cc i277_1 rfl (cl_v o277 m9_216 na188 rfl rfl (bt rfl) (bt rfl) rfl (by rw [ShModel_k0 hS448, o188])) ln188 (pd188 (aR 448)) <| ok_aloadn (pc' := 1) i188_0 rfl rfl <| ok_iconst (pc' := 2) i188_1 rfl <| ok_putfj (kk := 0) (pc' := 5) i188_2 o188 pi188_63 (ShModel_k0 hS448) rfl rfl <| ok_aloadn (pc' := 6) i188_5 rfl rfl <| ok_aloadn (pc' := 7) i188_6 rfl rfl <| ok_getfi (v := 1) (pc' := 10) i188_7 o188 gi9_66 (ShModel_k0 hS448) (rd_ni (by decide) (hld.trans hl)) rfl <| ?_
    refine ok_kz1 (pc1 := 17) (pc2 := 13) i188_10 (by decide) rfl rfl <| ok_iconst (pc' := 18) i188_17 rfl <| ok_iconst (pc' := 19) i188_18 rfl <| ok_cc i188_19 rfl (cl_v o188 m9_70 na165 rfl rfl (bt rfl) (bt rfl) rfl (by rw [ShModel_k0 hS448, o165])) ln165 (pd165 (aR 448) (aI 0) (aI 1)) <| ok_aloadn (pc' := 1) i165_0 rfl rfl <| ok_getfi (v := 0) (pc' := 4) i165_1 o165 gi9_63 (ShModel_k0 hS448) rd_eq rfl <| ok_kz0 (pc1 := 16) (pc2 := 7) i165_4 (by decide) rfl rfl <| ok_iloadn (pc' := 8) i165_7 rfl rfl <| ?_
    refine ok_kz1 (pc1 := 16) (pc2 := 11) i165_8 (by decide) rfl rfl <| ok_aloadn (pc' := 17) i165_16 rfl rfl <| ok_getfi (v := 0) (pc' := 20) i165_17 o165 gi9_63 (ShModel_k0 hS448) rd_eq rfl <| ok_kz1 (pc1 := 27) (pc2 := 23) i165_20 (by decide) rfl rfl <| ok_iconst (pc' := 28) i165_27 rfl <| ok_iretz i165_28 rt165 (by decide) <| kt_v (pc' := 22) rfl <| ok_iretz i188_22 rt188 (by decide) <| ?_
    refine kt_v (pc' := 4) rfl <| ok_kz0 (pc1 := 29) (pc2 := 7) i277_4 (by decide) rfl rfl <| ok_aloadn (pc' := 8) i277_7 rfl rfl <| ok_iloadn (pc' := 9) i277_8 rfl rfl <| ok_iconst (pc' := 10) i277_9 rfl <| ok_iconst (pc' := 11) i277_10 rfl <| ok_cc i277_11 rfl (cl_s o277 m9_140 na164 rfl rfl (bt rfl) (bt rfl) rfl) ln164 (pd164 (aI v1) (aI 0) (aI 1)) <| ok_iloadn (pc' := 1) i164_0 rfl rfl <| ?_
    refine ok_iloadn (pc' := 2) i164_1 rfl rfl <| ?_
    refine ok_clt (pc1 := 14) (pc2 := 5) i164_2 (by omega) rfl rfl (fun h502 => ?_) (fun h9 => by exfalso; omega)
    refine ok_iconst (pc' := 15) i164_14 rfl <| ok_iretz i164_15 rt164 (by decide) <| kt_v (pc' := 14) rfl <| ok_kz0 (pc1 := 21) (pc2 := 17) i277_14 (by decide) rfl rfl <| ok_iconst (pc' := 18) i277_17 rfl <| ok_goto (pc' := 22) i277_18 rfl <| ok_iconst (pc' := 23) i277_22 rfl <| ok_cc i277_23 rfl (cl_v o277 m9_70 na165 rfl rfl (bt rfl) (bt rfl) rfl (by rw [ShModel_k0 hS448, o165])) ln165 (pd165 (aR 448) (aI 1) (aI 2)) <| ?_
    refine ok_aloadn (pc' := 1) i165_0 rfl rfl <| ok_getfi (v := 0) (pc' := 4) i165_1 o165 gi9_63 (ShModel_k0 hS448) rd_eq rfl <| ok_kz0 (pc1 := 16) (pc2 := 7) i165_4 (by decide) rfl rfl <| ok_iloadn (pc' := 8) i165_7 rfl rfl <| ok_kz0 (pc1 := 16) (pc2 := 11) i165_8 (by decide) rfl rfl <| ok_aloadn (pc' := 12) i165_11 rfl rfl <| ok_iloadn (pc' := 13) i165_12 rfl rfl <| ok_putfj (kk := 0) (pc' := 16) i165_13 o165 pi165_63 (ShModel_k0 hS448) rfl rfl <| ?_
    refine ok_aloadn (pc' := 17) i165_16 rfl rfl <| ok_getfi (v := 2) (pc' := 20) i165_17 o165 gi9_63 (ShModel_k0 hS448) rd_eq rfl <| ok_kz0 (pc1 := 27) (pc2 := 23) i165_20 (by decide) rfl rfl <| ok_iconst (pc' := 24) i165_23 rfl <| ok_goto (pc' := 28) i165_24 rfl <| ok_iretz i165_28 rt165 (by decide) <| kt_v (pc' := 26) rfl <| ok_kz0 (pc1 := 31) (pc2 := 29) i277_26 (by decide) rfl rfl <| ?_
    refine ok_iconst (pc' := 30) i277_29 rfl <| ok_ireti i277_30 rt277 <| kt_v (pc' := 3240) rfl <| ok_istore (pc' := 3242) (ls' := [aR 1, aR 100, aR 448, aR 464, aR 465, aI i, aI 2, aI 0, w8]) i0_3240 (bt rfl) rfl rfl <| ok_aloadn (pc' := 3243) i0_3242 rfl rfl <| ok_cc i0_3243 rfl (cl_v o0 m13_188 na157 rfl rfl (bt rfl) (bt rfl) rfl (by rw [ShModel_k0 hS448, o157])) ln157 (pd157 (aR 448)) <| ok_aloadn (pc' := 1) i157_0 rfl rfl <| ok_getfi (v := 2) (pc' := 4) i157_1 o157 gi9_63 (ShModel_k0 hS448) rd_eq rfl <| ?_
    refine ok_ireti i157_4 rt157 <| kt_v (pc' := 3246) rfl <| ok_iload (pc' := 3248) i0_3246 rfl rfl <| ok_kc1 (pc1 := 3253) (pc2 := 3251) i0_3248 (by decide) rfl rfl <| ok_iload (pc' := 3255) i0_3253 rfl rfl <| ok_kz1 (pc1 := 3270) (pc2 := 3258) i0_3255 (by decide) rfl rfl <| ok_goto (pc' := 3329) i0_3270 rfl <| ?_
    exact K _ _ _ _ _ _ hD (by omega) (Inv_mono (Inv_same hI (Same.thr (Same.thr Same.rfl))) (by omega))
  · refine ok_aloadn (pc' := 3218) i0_3217 rfl rfl <| ok_aloadn (pc' := 3219) i0_3218 rfl rfl <| ok_iload (pc' := 3221) i0_3219 rfl rfl <| ok_iconst (pc' := 3222) i0_3221 rfl <| ok_iadd (v := (i + 1)) (pc' := 3223) i0_3222 rfl rfl <| ok_iaload (v := v1) (pc' := 3224) i0_3223 (ShScr_k0 hS1) (by decide) (ShScr_l0 hS1) (by omega) hv1 rfl <| ok_aloadn (pc' := 3225) i0_3224 rfl rfl <| ok_cc i0_3225 rfl (cl_s o0 m13_361 na327 rfl rfl (bt rfl) (bt rfl) rfl) ln327 (pd327 (aR 100) (aI v1) (aR 464)) <| ?_
    refine ok_aloadn (pc' := 1) i327_0 rfl rfl <| ok_iconst (pc' := 2) i327_1 rfl <| ok_aloadn (pc' := 3) i327_2 rfl rfl <| ok_iloadn (pc' := 4) i327_3 rfl rfl <| ok_cc i327_4 rfl (cl_v o327 m13_167 na153 rfl rfl (bt rfl) (bt rfl) rfl (by rw [ShYard_k0 hS100, o153])) ln153 (pd153 (aR 100) (aI v1)) <| ok_aloadn (pc' := 1) i153_0 rfl rfl <| ok_cc i153_1 rfl (cl_v o153 m0_132 na99 rfl rfl (bt rfl) (bt rfl) rfl (by rw [ShYard_k0 hS100, o99])) ln99 (pd99 (aR 100)) <| ok_aloadn (pc' := 1) i99_0 rfl rfl <| ?_
    refine ok_getfi (v := 1) (pc' := 4) i99_1 o99 gi0_268 (ShYard_k0 hS100) hl rfl <| ok_kz1 (pc1 := 18) (pc2 := 7) i99_4 (by decide) rfl rfl <| ok_vret i99_18 rt99 <| kt_0 (pc' := 4) rfl <| ok_iloadn (pc' := 5) i153_4 rfl rfl <| ok_cc i153_5 rfl (cl_s o153 m0_352 na154 rfl rfl (bt rfl) (bt rfl) rfl) ln154 (pd154 (aI v1)) <| ok_iloadn (pc' := 1) i154_0 rfl rfl <| ?_
    refine ok_zlt (pc1 := 9) (pc2 := 4) i154_1 (by omega) rfl rfl (fun h9 => by exfalso; omega) (fun h501 => ?_)
    refine ok_iloadn (pc' := 5) i154_4 rfl rfl <| ok_iconst (pc' := 6) i154_5 rfl <| ?_
    refine ok_clt (pc1 := 20) (pc2 := 9) i154_6 (by omega) rfl rfl (fun h9 => by exfalso; omega) (fun h502 => ?_)
    refine ok_throw th154_9 (bt rfl) <| kt_x hh153 <| kt_h hn327 hf327_4_10 hr327_15 <| kt_v (pc' := 3228) rfl <| ?_
    refine ok_al hD (fun g hD => ?_)
    have hS448 := HD_o hD
    have hS1 := HD_s hD
    have hS464 := HD_u hD
    have hS465 := HD_ud hD
    refine ok_istore (pc' := 3230) (ls' := [aR 1, aR 100, aR 448, aR 464, aR 465, aI i, aI 2, w7, w8]) i0_3228 (bt rfl) rfl rfl <| ok_aloadn (pc' := 3231) i0_3230 rfl rfl <| ok_aloadn (pc' := 3232) i0_3231 rfl rfl <| ok_iload (pc' := 3234) i0_3232 rfl rfl <| ok_iconst (pc' := 3235) i0_3234 rfl <| ok_iadd (v := (i + 1)) (pc' := 3236) i0_3235 rfl rfl <| ok_iaload (v := v1) (pc' := 3237) i0_3236 (ShScr_k0 hS1) (by decide) (ShScr_l0 hS1) (by omega) hv1 rfl <| ok_cc i0_3237 rfl (cl_v o0 m13_363 na277 rfl rfl (bt rfl) (bt rfl) rfl (by rw [ShModel_k0 hS448, o277])) ln277 (pd277 (aR 448) (aI v1)) <| ?_
    refine ok_aloadn (pc' := 1) i277_0 rfl rfl <| ok_cc i277_1 rfl (cl_v o277 m9_216 na188 rfl rfl (bt rfl) (bt rfl) rfl (by rw [ShModel_k0 hS448, o188])) ln188 (pd188 (aR 448)) <| ok_aloadn (pc' := 1) i188_0 rfl rfl <| ok_iconst (pc' := 2) i188_1 rfl <| ok_putfj (kk := 0) (pc' := 5) i188_2 o188 pi188_63 (ShModel_k0 hS448) rfl rfl <| ok_aloadn (pc' := 6) i188_5 rfl rfl <| ok_aloadn (pc' := 7) i188_6 rfl rfl <| ok_getfi (v := 1) (pc' := 10) i188_7 o188 gi9_66 (ShModel_k0 hS448) (rd_ni (by decide) (hld.trans hl)) rfl <| ?_
    refine ok_kz1 (pc1 := 17) (pc2 := 13) i188_10 (by decide) rfl rfl <| ok_iconst (pc' := 18) i188_17 rfl <| ok_iconst (pc' := 19) i188_18 rfl <| ok_cc i188_19 rfl (cl_v o188 m9_70 na165 rfl rfl (bt rfl) (bt rfl) rfl (by rw [ShModel_k0 hS448, o165])) ln165 (pd165 (aR 448) (aI 0) (aI 1)) <| ok_aloadn (pc' := 1) i165_0 rfl rfl <| ok_getfi (v := 0) (pc' := 4) i165_1 o165 gi9_63 (ShModel_k0 hS448) rd_eq rfl <| ok_kz0 (pc1 := 16) (pc2 := 7) i165_4 (by decide) rfl rfl <| ok_iloadn (pc' := 8) i165_7 rfl rfl <| ?_
    refine ok_kz1 (pc1 := 16) (pc2 := 11) i165_8 (by decide) rfl rfl <| ok_aloadn (pc' := 17) i165_16 rfl rfl <| ok_getfi (v := 0) (pc' := 20) i165_17 o165 gi9_63 (ShModel_k0 hS448) rd_eq rfl <| ok_kz1 (pc1 := 27) (pc2 := 23) i165_20 (by decide) rfl rfl <| ok_iconst (pc' := 28) i165_27 rfl <| ok_iretz i165_28 rt165 (by decide) <| kt_v (pc' := 22) rfl <| ok_iretz i188_22 rt188 (by decide) <| ?_
    refine kt_v (pc' := 4) rfl <| ok_kz0 (pc1 := 29) (pc2 := 7) i277_4 (by decide) rfl rfl <| ok_aloadn (pc' := 8) i277_7 rfl rfl <| ok_iloadn (pc' := 9) i277_8 rfl rfl <| ok_iconst (pc' := 10) i277_9 rfl <| ok_iconst (pc' := 11) i277_10 rfl <| ok_cc i277_11 rfl (cl_s o277 m9_140 na164 rfl rfl (bt rfl) (bt rfl) rfl) ln164 (pd164 (aI v1) (aI 0) (aI 1)) <| ok_iloadn (pc' := 1) i164_0 rfl rfl <| ?_
    refine ok_iloadn (pc' := 2) i164_1 rfl rfl <| ?_
    refine ok_clt (pc1 := 14) (pc2 := 5) i164_2 (by omega) rfl rfl (fun h9 => by exfalso; omega) (fun h503 => ?_)
    refine ok_iloadn (pc' := 6) i164_5 rfl rfl <| ok_iloadn (pc' := 7) i164_6 rfl rfl <| ?_
    refine ok_cgt (pc1 := 14) (pc2 := 10) i164_7 (by omega) rfl rfl (fun h504 => ?_) (fun h9 => by exfalso; omega)
    refine ok_iconst (pc' := 15) i164_14 rfl <| ok_iretz i164_15 rt164 (by decide) <| kt_v (pc' := 14) rfl <| ok_kz0 (pc1 := 21) (pc2 := 17) i277_14 (by decide) rfl rfl <| ok_iconst (pc' := 18) i277_17 rfl <| ok_goto (pc' := 22) i277_18 rfl <| ok_iconst (pc' := 23) i277_22 rfl <| ok_cc i277_23 rfl (cl_v o277 m9_70 na165 rfl rfl (bt rfl) (bt rfl) rfl (by rw [ShModel_k0 hS448, o165])) ln165 (pd165 (aR 448) (aI 1) (aI 2)) <| ?_
    refine ok_aloadn (pc' := 1) i165_0 rfl rfl <| ok_getfi (v := 0) (pc' := 4) i165_1 o165 gi9_63 (ShModel_k0 hS448) rd_eq rfl <| ok_kz0 (pc1 := 16) (pc2 := 7) i165_4 (by decide) rfl rfl <| ok_iloadn (pc' := 8) i165_7 rfl rfl <| ok_kz0 (pc1 := 16) (pc2 := 11) i165_8 (by decide) rfl rfl <| ok_aloadn (pc' := 12) i165_11 rfl rfl <| ok_iloadn (pc' := 13) i165_12 rfl rfl <| ok_putfj (kk := 0) (pc' := 16) i165_13 o165 pi165_63 (ShModel_k0 hS448) rfl rfl <| ?_
    refine ok_aloadn (pc' := 17) i165_16 rfl rfl <| ok_getfi (v := 2) (pc' := 20) i165_17 o165 gi9_63 (ShModel_k0 hS448) rd_eq rfl <| ok_kz0 (pc1 := 27) (pc2 := 23) i165_20 (by decide) rfl rfl <| ok_iconst (pc' := 24) i165_23 rfl <| ok_goto (pc' := 28) i165_24 rfl <| ok_iretz i165_28 rt165 (by decide) <| kt_v (pc' := 26) rfl <| ok_kz0 (pc1 := 31) (pc2 := 29) i277_26 (by decide) rfl rfl <| ?_
    refine ok_iconst (pc' := 30) i277_29 rfl <| ok_ireti i277_30 rt277 <| kt_v (pc' := 3240) rfl <| ok_istore (pc' := 3242) (ls' := [aR 1, aR 100, aR 448, aR 464, aR 465, aI i, aI 2, aI 0, w8]) i0_3240 (bt rfl) rfl rfl <| ok_aloadn (pc' := 3243) i0_3242 rfl rfl <| ok_cc i0_3243 rfl (cl_v o0 m13_188 na157 rfl rfl (bt rfl) (bt rfl) rfl (by rw [ShModel_k0 hS448, o157])) ln157 (pd157 (aR 448)) <| ok_aloadn (pc' := 1) i157_0 rfl rfl <| ok_getfi (v := 2) (pc' := 4) i157_1 o157 gi9_63 (ShModel_k0 hS448) rd_eq rfl <| ?_
    refine ok_ireti i157_4 rt157 <| kt_v (pc' := 3246) rfl <| ok_iload (pc' := 3248) i0_3246 rfl rfl <| ok_kc1 (pc1 := 3253) (pc2 := 3251) i0_3248 (by decide) rfl rfl <| ok_iload (pc' := 3255) i0_3253 rfl rfl <| ok_kz1 (pc1 := 3270) (pc2 := 3258) i0_3255 (by decide) rfl rfl <| ok_goto (pc' := 3329) i0_3270 rfl <| ?_
    exact K _ _ _ _ _ _ hD (by omega) (Inv_mono (Inv_same hI (Same.thr (Same.thr Same.rfl))) (by omega))
theorem c6_1_o {L n : Nat} {g : AG} {M : AM} {xs : Nat → Int32} {b i : Int} {w6 w7 w8 : AV} {Q : AO → AG → AM → Prop} (hD : HD L n g) (hI : Inv xs b M) (hi : 0 ≤ i ∧ i + 6 ≤ L) (hb : 0 ≤ b ∧ b ≤ 900000) (hl : M 100 6 = 1) (ho : M 1 (i + 1) < 0 ∨ 7 < M 1 (i + 1)) (K : KK L n i b xs Q) :
    Ok 10 0 469 [aR 1, aR 100, aR 448, aR 464, aR 465, aI i, w6, w7, w8] [] g M Q := by
  have hI0 := hI
  obtain ⟨hA, hld, hl01, q, hc, ⟨nx, sz, hH, hsz⟩, hS⟩ := hI0
  have hH0 := hH
  obtain ⟨⟨hn1, hn0⟩, ⟨hz2, hz0⟩, h10, hHj⟩ := hH0
  obtain ⟨hw0, ⟨bu, by_, hb1, hb13, hbu, hZ, hU⟩, he3, he4, he5, hId, tx, hT, hUt, htl, htr⟩ := hA
  have htz := hT.2.1
  obtain ⟨s, hP, hRB, hO, hV, hQ, h40⟩ := hc hl
  have ys3 := V_3 hV
  have ys4 := V_4 hV
  have yq0 := Q_0 hQ
  have yq1 := Q_1 hQ
  obtain ⟨v1, hv1⟩ : ∃ u9 : Int, M 1 (i + 1) = u9 := ⟨_, rfl⟩
  have hr1 : -2147483648 ≤ v1 ∧ v1 < 2147483648 := hv1 ▸ scr_rg hw0 (i + 1)
  have hS1 := HD_s hD
  have hS100 := HD_y hD
  have hS448 := HD_o hD
  have hS464 := HD_u hD
  have hS465 := HD_ud hD
  rcases (show v1 < 0 ∨ 7 < v1 by omega) with hx | hx
  · refine ok_aloadn (pc' := 470) i0_469 rfl rfl <| ok_aloadn (pc' := 471) i0_470 rfl rfl <| ok_iload (pc' := 473) i0_471 rfl rfl <| ok_iconst (pc' := 474) i0_473 rfl <| ok_iadd (v := (i + 1)) (pc' := 475) i0_474 rfl rfl <| ok_iaload (v := v1) (pc' := 476) i0_475 (ShScr_k0 hS1) (by decide) (ShScr_l0 hS1) (by omega) hv1 rfl <| ok_aloadn (pc' := 477) i0_476 rfl rfl <| ok_cc i0_477 rfl (cl_s o0 m13_207 na280 rfl rfl (bt rfl) (bt rfl) rfl) ln280 (pd280 (aR 100) (aI v1) (aR 464)) <| ?_
    refine ok_aloadn (pc' := 1) i280_0 rfl rfl <| ok_iconst (pc' := 2) i280_1 rfl <| ok_aloadn (pc' := 3) i280_2 rfl rfl <| ok_iloadn (pc' := 4) i280_3 rfl rfl <| ok_cc i280_4 rfl (cl_v o280 m13_17 na98 rfl rfl (bt rfl) (bt rfl) rfl (by rw [ShYard_k0 hS100, o98])) ln98 (pd98 (aR 100) (aI v1)) <| ok_aloadn (pc' := 1) i98_0 rfl rfl <| ok_cc i98_1 rfl (cl_v o98 m0_132 na99 rfl rfl (bt rfl) (bt rfl) rfl (by rw [ShYard_k0 hS100, o99])) ln99 (pd99 (aR 100)) <| ok_aloadn (pc' := 1) i99_0 rfl rfl <| ?_
    refine ok_getfi (v := 1) (pc' := 4) i99_1 o99 gi0_268 (ShYard_k0 hS100) hl rfl <| ok_kz1 (pc1 := 18) (pc2 := 7) i99_4 (by decide) rfl rfl <| ok_vret i99_18 rt99 <| kt_0 (pc' := 4) rfl <| ok_iloadn (pc' := 5) i98_4 rfl rfl <| ok_tsw (pc' := 116) (off := 111) i98_5 (by omega) (Or.inr ⟨by omega, rfl⟩) rfl <| ok_throw th98_116 (bt rfl) <| kt_h hn280 hf280_4_11 hr280_15 <| ?_
    refine kt_v (pc' := 480) rfl <| ?_
    refine ok_al hD (fun g hD => ?_)
    have hS448 := HD_o hD
    have hS1 := HD_s hD
    have hS464 := HD_u hD
    have hS465 := HD_ud hD
    refine ok_istore (pc' := 482) (ls' := [aR 1, aR 100, aR 448, aR 464, aR 465, aI i, aI 2, w7, w8]) i0_480 (bt rfl) rfl rfl <| ok_aloadn (pc' := 483) i0_482 rfl rfl <| ok_aloadn (pc' := 484) i0_483 rfl rfl <| ok_iload (pc' := 486) i0_484 rfl rfl <| ok_iconst (pc' := 487) i0_486 rfl <| ok_iadd (v := (i + 1)) (pc' := 488) i0_487 rfl rfl <| ok_iaload (v := v1) (pc' := 489) i0_488 (ShScr_k0 hS1) (by decide) (ShScr_l0 hS1) (by omega) hv1 rfl <| ok_cc i0_489 rfl (cl_v o0 m13_209 na187 rfl rfl (bt rfl) (bt rfl) rfl (by rw [ShModel_k0 hS448, o187])) ln187 (pd187 (aR 448) (aI v1)) <| ?_
    refine ok_aloadn (pc' := 1) i187_0 rfl rfl <| ok_cc i187_1 rfl (cl_v o187 m9_216 na188 rfl rfl (bt rfl) (bt rfl) rfl (by rw [ShModel_k0 hS448, o188])) ln188 (pd188 (aR 448)) <| ok_aloadn (pc' := 1) i188_0 rfl rfl <| ok_iconst (pc' := 2) i188_1 rfl <| ok_putfj (kk := 0) (pc' := 5) i188_2 o188 pi188_63 (ShModel_k0 hS448) rfl rfl <| ok_aloadn (pc' := 6) i188_5 rfl rfl <| ok_aloadn (pc' := 7) i188_6 rfl rfl <| ok_getfi (v := 1) (pc' := 10) i188_7 o188 gi9_66 (ShModel_k0 hS448) (rd_ni (by decide) (hld.trans hl)) rfl <| ?_
    refine ok_kz1 (pc1 := 17) (pc2 := 13) i188_10 (by decide) rfl rfl <| ok_iconst (pc' := 18) i188_17 rfl <| ok_iconst (pc' := 19) i188_18 rfl <| ok_cc i188_19 rfl (cl_v o188 m9_70 na165 rfl rfl (bt rfl) (bt rfl) rfl (by rw [ShModel_k0 hS448, o165])) ln165 (pd165 (aR 448) (aI 0) (aI 1)) <| ok_aloadn (pc' := 1) i165_0 rfl rfl <| ok_getfi (v := 0) (pc' := 4) i165_1 o165 gi9_63 (ShModel_k0 hS448) rd_eq rfl <| ok_kz0 (pc1 := 16) (pc2 := 7) i165_4 (by decide) rfl rfl <| ok_iloadn (pc' := 8) i165_7 rfl rfl <| ?_
    refine ok_kz1 (pc1 := 16) (pc2 := 11) i165_8 (by decide) rfl rfl <| ok_aloadn (pc' := 17) i165_16 rfl rfl <| ok_getfi (v := 0) (pc' := 20) i165_17 o165 gi9_63 (ShModel_k0 hS448) rd_eq rfl <| ok_kz1 (pc1 := 27) (pc2 := 23) i165_20 (by decide) rfl rfl <| ok_iconst (pc' := 28) i165_27 rfl <| ok_iretz i165_28 rt165 (by decide) <| kt_v (pc' := 22) rfl <| ok_iretz i188_22 rt188 (by decide) <| ?_
    refine kt_v (pc' := 4) rfl <| ok_kz0 (pc1 := 30) (pc2 := 7) i187_4 (by decide) rfl rfl <| ok_aloadn (pc' := 8) i187_7 rfl rfl <| ok_iloadn (pc' := 9) i187_8 rfl rfl <| ok_iconst (pc' := 10) i187_9 rfl <| ok_bipush (v := 7) (pc' := 12) i187_10 rfl rfl <| ok_cc i187_12 rfl (cl_s o187 m9_140 na164 rfl rfl (bt rfl) (bt rfl) rfl) ln164 (pd164 (aI v1) (aI 0) (aI 7)) <| ok_iloadn (pc' := 1) i164_0 rfl rfl <| ?_
    refine ok_iloadn (pc' := 2) i164_1 rfl rfl <| ?_
    refine ok_clt (pc1 := 14) (pc2 := 5) i164_2 (by omega) rfl rfl (fun h501 => ?_) (fun h9 => by exfalso; omega)
    refine ok_iconst (pc' := 15) i164_14 rfl <| ok_iretz i164_15 rt164 (by decide) <| kt_v (pc' := 15) rfl <| ok_kz0 (pc1 := 22) (pc2 := 18) i187_15 (by decide) rfl rfl <| ok_iconst (pc' := 19) i187_18 rfl <| ok_goto (pc' := 23) i187_19 rfl <| ok_iconst (pc' := 24) i187_23 rfl <| ok_cc i187_24 rfl (cl_v o187 m9_70 na165 rfl rfl (bt rfl) (bt rfl) rfl (by rw [ShModel_k0 hS448, o165])) ln165 (pd165 (aR 448) (aI 1) (aI 2)) <| ?_
    refine ok_aloadn (pc' := 1) i165_0 rfl rfl <| ok_getfi (v := 0) (pc' := 4) i165_1 o165 gi9_63 (ShModel_k0 hS448) rd_eq rfl <| ok_kz0 (pc1 := 16) (pc2 := 7) i165_4 (by decide) rfl rfl <| ok_iloadn (pc' := 8) i165_7 rfl rfl <| ok_kz0 (pc1 := 16) (pc2 := 11) i165_8 (by decide) rfl rfl <| ok_aloadn (pc' := 12) i165_11 rfl rfl <| ok_iloadn (pc' := 13) i165_12 rfl rfl <| ok_putfj (kk := 0) (pc' := 16) i165_13 o165 pi165_63 (ShModel_k0 hS448) rfl rfl <| ?_
    refine ok_aloadn (pc' := 17) i165_16 rfl rfl <| ok_getfi (v := 2) (pc' := 20) i165_17 o165 gi9_63 (ShModel_k0 hS448) rd_eq rfl <| ok_kz0 (pc1 := 27) (pc2 := 23) i165_20 (by decide) rfl rfl <| ok_iconst (pc' := 24) i165_23 rfl <| ok_goto (pc' := 28) i165_24 rfl <| ok_iretz i165_28 rt165 (by decide) <| kt_v (pc' := 27) rfl <| ok_kz0 (pc1 := 32) (pc2 := 30) i187_27 (by decide) rfl rfl <| ?_
    refine ok_iconst (pc' := 31) i187_30 rfl <| ok_ireti i187_31 rt187 <| kt_v (pc' := 492) rfl <| ok_istore (pc' := 494) (ls' := [aR 1, aR 100, aR 448, aR 464, aR 465, aI i, aI 2, aI 0, w8]) i0_492 (bt rfl) rfl rfl <| ok_aloadn (pc' := 495) i0_494 rfl rfl <| ok_cc i0_495 rfl (cl_v o0 m13_188 na157 rfl rfl (bt rfl) (bt rfl) rfl (by rw [ShModel_k0 hS448, o157])) ln157 (pd157 (aR 448)) <| ok_aloadn (pc' := 1) i157_0 rfl rfl <| ok_getfi (v := 2) (pc' := 4) i157_1 o157 gi9_63 (ShModel_k0 hS448) rd_eq rfl <| ?_
    refine ok_ireti i157_4 rt157 <| kt_v (pc' := 498) rfl <| ok_iload (pc' := 500) i0_498 rfl rfl <| ok_kc1 (pc1 := 505) (pc2 := 503) i0_500 (by decide) rfl rfl <| ok_iload (pc' := 507) i0_505 rfl rfl <| ok_kz1 (pc1 := 522) (pc2 := 510) i0_507 (by decide) rfl rfl <| ok_goto (pc' := 3329) i0_522 rfl <| ?_
    exact K _ _ _ _ _ _ hD (by omega) (Inv_mono (Inv_same hI (Same.thr (Same.thr Same.rfl))) (by omega))
  · refine ok_aloadn (pc' := 470) i0_469 rfl rfl <| ok_aloadn (pc' := 471) i0_470 rfl rfl <| ok_iload (pc' := 473) i0_471 rfl rfl <| ok_iconst (pc' := 474) i0_473 rfl <| ok_iadd (v := (i + 1)) (pc' := 475) i0_474 rfl rfl <| ok_iaload (v := v1) (pc' := 476) i0_475 (ShScr_k0 hS1) (by decide) (ShScr_l0 hS1) (by omega) hv1 rfl <| ok_aloadn (pc' := 477) i0_476 rfl rfl <| ok_cc i0_477 rfl (cl_s o0 m13_207 na280 rfl rfl (bt rfl) (bt rfl) rfl) ln280 (pd280 (aR 100) (aI v1) (aR 464)) <| ?_
    refine ok_aloadn (pc' := 1) i280_0 rfl rfl <| ok_iconst (pc' := 2) i280_1 rfl <| ok_aloadn (pc' := 3) i280_2 rfl rfl <| ok_iloadn (pc' := 4) i280_3 rfl rfl <| ok_cc i280_4 rfl (cl_v o280 m13_17 na98 rfl rfl (bt rfl) (bt rfl) rfl (by rw [ShYard_k0 hS100, o98])) ln98 (pd98 (aR 100) (aI v1)) <| ok_aloadn (pc' := 1) i98_0 rfl rfl <| ok_cc i98_1 rfl (cl_v o98 m0_132 na99 rfl rfl (bt rfl) (bt rfl) rfl (by rw [ShYard_k0 hS100, o99])) ln99 (pd99 (aR 100)) <| ok_aloadn (pc' := 1) i99_0 rfl rfl <| ?_
    refine ok_getfi (v := 1) (pc' := 4) i99_1 o99 gi0_268 (ShYard_k0 hS100) hl rfl <| ok_kz1 (pc1 := 18) (pc2 := 7) i99_4 (by decide) rfl rfl <| ok_vret i99_18 rt99 <| kt_0 (pc' := 4) rfl <| ok_iloadn (pc' := 5) i98_4 rfl rfl <| ok_tsw (pc' := 116) (off := 111) i98_5 (by omega) (Or.inr ⟨by omega, rfl⟩) rfl <| ok_throw th98_116 (bt rfl) <| kt_h hn280 hf280_4_11 hr280_15 <| ?_
    refine kt_v (pc' := 480) rfl <| ?_
    refine ok_al hD (fun g hD => ?_)
    have hS448 := HD_o hD
    have hS1 := HD_s hD
    have hS464 := HD_u hD
    have hS465 := HD_ud hD
    refine ok_istore (pc' := 482) (ls' := [aR 1, aR 100, aR 448, aR 464, aR 465, aI i, aI 2, w7, w8]) i0_480 (bt rfl) rfl rfl <| ok_aloadn (pc' := 483) i0_482 rfl rfl <| ok_aloadn (pc' := 484) i0_483 rfl rfl <| ok_iload (pc' := 486) i0_484 rfl rfl <| ok_iconst (pc' := 487) i0_486 rfl <| ok_iadd (v := (i + 1)) (pc' := 488) i0_487 rfl rfl <| ok_iaload (v := v1) (pc' := 489) i0_488 (ShScr_k0 hS1) (by decide) (ShScr_l0 hS1) (by omega) hv1 rfl <| ok_cc i0_489 rfl (cl_v o0 m13_209 na187 rfl rfl (bt rfl) (bt rfl) rfl (by rw [ShModel_k0 hS448, o187])) ln187 (pd187 (aR 448) (aI v1)) <| ?_
    refine ok_aloadn (pc' := 1) i187_0 rfl rfl <| ok_cc i187_1 rfl (cl_v o187 m9_216 na188 rfl rfl (bt rfl) (bt rfl) rfl (by rw [ShModel_k0 hS448, o188])) ln188 (pd188 (aR 448)) <| ok_aloadn (pc' := 1) i188_0 rfl rfl <| ok_iconst (pc' := 2) i188_1 rfl <| ok_putfj (kk := 0) (pc' := 5) i188_2 o188 pi188_63 (ShModel_k0 hS448) rfl rfl <| ok_aloadn (pc' := 6) i188_5 rfl rfl <| ok_aloadn (pc' := 7) i188_6 rfl rfl <| ok_getfi (v := 1) (pc' := 10) i188_7 o188 gi9_66 (ShModel_k0 hS448) (rd_ni (by decide) (hld.trans hl)) rfl <| ?_
    refine ok_kz1 (pc1 := 17) (pc2 := 13) i188_10 (by decide) rfl rfl <| ok_iconst (pc' := 18) i188_17 rfl <| ok_iconst (pc' := 19) i188_18 rfl <| ok_cc i188_19 rfl (cl_v o188 m9_70 na165 rfl rfl (bt rfl) (bt rfl) rfl (by rw [ShModel_k0 hS448, o165])) ln165 (pd165 (aR 448) (aI 0) (aI 1)) <| ok_aloadn (pc' := 1) i165_0 rfl rfl <| ok_getfi (v := 0) (pc' := 4) i165_1 o165 gi9_63 (ShModel_k0 hS448) rd_eq rfl <| ok_kz0 (pc1 := 16) (pc2 := 7) i165_4 (by decide) rfl rfl <| ok_iloadn (pc' := 8) i165_7 rfl rfl <| ?_
    refine ok_kz1 (pc1 := 16) (pc2 := 11) i165_8 (by decide) rfl rfl <| ok_aloadn (pc' := 17) i165_16 rfl rfl <| ok_getfi (v := 0) (pc' := 20) i165_17 o165 gi9_63 (ShModel_k0 hS448) rd_eq rfl <| ok_kz1 (pc1 := 27) (pc2 := 23) i165_20 (by decide) rfl rfl <| ok_iconst (pc' := 28) i165_27 rfl <| ok_iretz i165_28 rt165 (by decide) <| kt_v (pc' := 22) rfl <| ok_iretz i188_22 rt188 (by decide) <| ?_
    refine kt_v (pc' := 4) rfl <| ok_kz0 (pc1 := 30) (pc2 := 7) i187_4 (by decide) rfl rfl <| ok_aloadn (pc' := 8) i187_7 rfl rfl <| ok_iloadn (pc' := 9) i187_8 rfl rfl <| ok_iconst (pc' := 10) i187_9 rfl <| ok_bipush (v := 7) (pc' := 12) i187_10 rfl rfl <| ok_cc i187_12 rfl (cl_s o187 m9_140 na164 rfl rfl (bt rfl) (bt rfl) rfl) ln164 (pd164 (aI v1) (aI 0) (aI 7)) <| ok_iloadn (pc' := 1) i164_0 rfl rfl <| ?_
    refine ok_iloadn (pc' := 2) i164_1 rfl rfl <| ?_
    refine ok_clt (pc1 := 14) (pc2 := 5) i164_2 (by omega) rfl rfl (fun h9 => by exfalso; omega) (fun h501 => ?_)
    refine ok_iloadn (pc' := 6) i164_5 rfl rfl <| ok_iloadn (pc' := 7) i164_6 rfl rfl <| ?_
    refine ok_cgt (pc1 := 14) (pc2 := 10) i164_7 (by omega) rfl rfl (fun h502 => ?_) (fun h9 => by exfalso; omega)
    refine ok_iconst (pc' := 15) i164_14 rfl <| ok_iretz i164_15 rt164 (by decide) <| kt_v (pc' := 15) rfl <| ok_kz0 (pc1 := 22) (pc2 := 18) i187_15 (by decide) rfl rfl <| ok_iconst (pc' := 19) i187_18 rfl <| ok_goto (pc' := 23) i187_19 rfl <| ok_iconst (pc' := 24) i187_23 rfl <| ok_cc i187_24 rfl (cl_v o187 m9_70 na165 rfl rfl (bt rfl) (bt rfl) rfl (by rw [ShModel_k0 hS448, o165])) ln165 (pd165 (aR 448) (aI 1) (aI 2)) <| ?_
    refine ok_aloadn (pc' := 1) i165_0 rfl rfl <| ok_getfi (v := 0) (pc' := 4) i165_1 o165 gi9_63 (ShModel_k0 hS448) rd_eq rfl <| ok_kz0 (pc1 := 16) (pc2 := 7) i165_4 (by decide) rfl rfl <| ok_iloadn (pc' := 8) i165_7 rfl rfl <| ok_kz0 (pc1 := 16) (pc2 := 11) i165_8 (by decide) rfl rfl <| ok_aloadn (pc' := 12) i165_11 rfl rfl <| ok_iloadn (pc' := 13) i165_12 rfl rfl <| ok_putfj (kk := 0) (pc' := 16) i165_13 o165 pi165_63 (ShModel_k0 hS448) rfl rfl <| ?_
    refine ok_aloadn (pc' := 17) i165_16 rfl rfl <| ok_getfi (v := 2) (pc' := 20) i165_17 o165 gi9_63 (ShModel_k0 hS448) rd_eq rfl <| ok_kz0 (pc1 := 27) (pc2 := 23) i165_20 (by decide) rfl rfl <| ok_iconst (pc' := 24) i165_23 rfl <| ok_goto (pc' := 28) i165_24 rfl <| ok_iretz i165_28 rt165 (by decide) <| kt_v (pc' := 27) rfl <| ok_kz0 (pc1 := 32) (pc2 := 30) i187_27 (by decide) rfl rfl <| ?_
    refine ok_iconst (pc' := 31) i187_30 rfl <| ok_ireti i187_31 rt187 <| kt_v (pc' := 492) rfl <| ok_istore (pc' := 494) (ls' := [aR 1, aR 100, aR 448, aR 464, aR 465, aI i, aI 2, aI 0, w8]) i0_492 (bt rfl) rfl rfl <| ok_aloadn (pc' := 495) i0_494 rfl rfl <| ok_cc i0_495 rfl (cl_v o0 m13_188 na157 rfl rfl (bt rfl) (bt rfl) rfl (by rw [ShModel_k0 hS448, o157])) ln157 (pd157 (aR 448)) <| ok_aloadn (pc' := 1) i157_0 rfl rfl <| ok_getfi (v := 2) (pc' := 4) i157_1 o157 gi9_63 (ShModel_k0 hS448) rd_eq rfl <| ?_
    refine ok_ireti i157_4 rt157 <| kt_v (pc' := 498) rfl <| ok_iload (pc' := 500) i0_498 rfl rfl <| ok_kc1 (pc1 := 505) (pc2 := 503) i0_500 (by decide) rfl rfl <| ok_iload (pc' := 507) i0_505 rfl rfl <| ok_kz1 (pc1 := 522) (pc2 := 510) i0_507 (by decide) rfl rfl <| ok_goto (pc' := 3329) i0_522 rfl <| ?_
    exact K _ _ _ _ _ _ hD (by omega) (Inv_mono (Inv_same hI (Same.thr (Same.thr Same.rfl))) (by omega))
