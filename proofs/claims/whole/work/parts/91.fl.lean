/-! THE LAW'S CASES: QUOTIENTS (by program, wip/gen) -/
theorem m13_303 : am_mlk 13 303 1 311 = true := by decide +kernel
theorem na311 : am_na 311 = 2 := by decide +kernel
theorem nl311 : am_nL 311 = 3 := by decide +kernel
theorem pd311 : ∀ a0 a1 : AV, am_pad 311 [a0, a1] = [a0, a1, aU] := by intros; unfold am_pad; rw [nl311]; rfl
theorem ln311 : 2 ≤ am_nL 311 := by rw [nl311]; decide
theorem o311 : am_oc 311 = 13 := by decide +kernel
theorem m13_116 : am_mlk 13 116 0 136 = true := by decide +kernel
theorem na136 : am_na 136 = 0 := by decide +kernel
theorem nl136 : am_nL 136 = 2 := by decide +kernel
theorem pd136 : ∀ a0 : AV, am_pad 136 [a0] = [a0, aU] := by intros; unfold am_pad; rw [nl136]; rfl
theorem ln136 : 1 ≤ am_nL 136 := by rw [nl136]; decide
theorem o136 : am_oc 136 = 0 := by decide +kernel
theorem hh136 : am_hh 136 = [] := rfl
theorem hn311 : am_hh 311 ≠ [] := by decide +kernel
theorem hf311_3_12 : am_find 311 3 12 (am_hh 311) = some (10, 20) := by decide +kernel
theorem hr311_10 : am_hret 311 10 = some 1 := by decide +kernel
theorem m13_306 : am_mlk 13 306 0 255 = true := by decide +kernel
theorem na255 : am_na 255 = 0 := by decide +kernel
theorem nl255 : am_nL 255 = 1 := by decide +kernel
theorem pd255 : ∀ a0 : AV, am_pad 255 [a0] = [a0] := by intros; unfold am_pad; rw [nl255]; rfl
theorem ln255 : 1 ≤ am_nL 255 := by rw [nl255]; decide
theorem o255 : am_oc 255 = 9 := by decide +kernel
theorem rt255 : am_rt 255 = some .double := by decide +kernel
theorem rt136 : am_rt 136 = some .double := by decide +kernel
theorem rt311 : am_rt 311 = some .int := by decide +kernel
theorem m13_307 : am_mlk 13 307 1 312 = true := by decide +kernel
theorem na312 : am_na 312 = 2 := by decide +kernel
theorem nl312 : am_nL 312 = 3 := by decide +kernel
theorem pd312 : ∀ a0 a1 : AV, am_pad 312 [a0, a1] = [a0, a1, aU] := by intros; unfold am_pad; rw [nl312]; rfl
theorem ln312 : 2 ≤ am_nL 312 := by rw [nl312]; decide
theorem o312 : am_oc 312 = 13 := by decide +kernel
theorem m13_120 : am_mlk 13 120 0 137 = true := by decide +kernel
theorem na137 : am_na 137 = 0 := by decide +kernel
theorem nl137 : am_nL 137 = 3 := by decide +kernel
theorem pd137 : ∀ a0 : AV, am_pad 137 [a0] = [a0, aU, aU] := by intros; unfold am_pad; rw [nl137]; rfl
theorem ln137 : 1 ≤ am_nL 137 := by rw [nl137]; decide
theorem o137 : am_oc 137 = 0 := by decide +kernel
theorem hh137 : am_hh 137 = [] := rfl
theorem hn312 : am_hh 312 ≠ [] := by decide +kernel
theorem hf312_3_12 : am_find 312 3 12 (am_hh 312) = some (11, 20) := by decide +kernel
theorem hr312_11 : am_hret 312 11 = some 1 := by decide +kernel
theorem m13_309 : am_mlk 13 309 0 256 = true := by decide +kernel
theorem na256 : am_na 256 = 0 := by decide +kernel
theorem nl256 : am_nL 256 = 2 := by decide +kernel
theorem pd256 : ∀ a0 : AV, am_pad 256 [a0] = [a0, aU] := by intros; unfold am_pad; rw [nl256]; rfl
theorem ln256 : 1 ≤ am_nL 256 := by rw [nl256]; decide
theorem o256 : am_oc 256 = 9 := by decide +kernel
theorem rt256 : am_rt 256 = some .float := by decide +kernel
theorem rt137 : am_rt 137 = some .float := by decide +kernel
theorem rt312 : am_rt 312 = some .int := by decide +kernel
theorem c37_0 {L n : Nat} {g : AG} {M : AM} {xs : Nat → Int32} {b i : Int} {w6 w7 w8 : AV} {Q : AO → AG → AM → Prop} (hD : HD L n g) (hI : Inv xs b M) (hi : 0 ≤ i ∧ i + 6 ≤ L) (hb : 0 ≤ b ∧ b ≤ 900000) (hl : M 100 6 = 0) (K : KK L n i b xs Q) :
    Ok 10 0 2228 [aR 1, aR 100, aR 448, aR 464, aR 465, aI i, w6, w7, w8] [] g M Q := by
  have hI0 := hI
  obtain ⟨hA, hld, hl01, q, hc, ⟨nx, sz, hH, hsz⟩, hS⟩ := hI0
  have hH0 := hH
  obtain ⟨⟨hn1, hn0⟩, ⟨hz2, hz0⟩, h10, hHj⟩ := hH0
  obtain ⟨hw0, ⟨bu, by_, hb1, hb13, hbu, hZ, hU⟩, he3, he4, he5, hId, tx, hT, hUt, htl, htr⟩ := hA
  have htz := hT.2.1
  have hS1 := HD_s hD
  have hS100 := HD_y hD
  have hS448 := HD_o hD
  have hS464 := HD_u hD
  have hS465 := HD_ud hD
  refine ok_aloadn (pc' := 2229) i0_2228 rfl rfl <| ok_aload (pc' := 2231) i0_2229 rfl rfl <| ok_cc i0_2231 rfl (cl_s o0 m13_303 na311 rfl rfl (bt rfl) (bt rfl) rfl) ln311 (pd311 (aR 100) (aR 465)) <| ok_aloadn (pc' := 1) i311_0 rfl rfl <| ok_iconst (pc' := 2) i311_1 rfl <| ok_aloadn (pc' := 3) i311_2 rfl rfl <| ok_cc i311_3 rfl (cl_v o311 m13_116 na136 rfl rfl (bt rfl) (bt rfl) rfl (by rw [ShYard_k0 hS100, o136])) ln136 (pd136 (aR 100)) <| ok_aloadn (pc' := 1) i136_0 rfl rfl <| ?_
  refine ok_cc i136_1 rfl (cl_v o136 m0_132 na99 rfl rfl (bt rfl) (bt rfl) rfl (by rw [ShYard_k0 hS100, o99])) ln99 (pd99 (aR 100)) <| ok_aloadn (pc' := 1) i99_0 rfl rfl <| ok_getfi (v := 0) (pc' := 4) i99_1 o99 gi0_268 (ShYard_k0 hS100) hl rfl <| ok_kz0 (pc1 := 18) (pc2 := 7) i99_4 (by decide) rfl rfl <| ok_throw th99_7 (bt rfl) <| kt_x hh136 <| kt_h hn311 hf311_3_12 hr311_10 <| kt_v (pc' := 2234) rfl <| ?_
  refine ok_al hD (fun g hD => ?_)
  have hS448 := HD_o hD
  have hS1 := HD_s hD
  have hS464 := HD_u hD
  have hS465 := HD_ud hD
  refine ok_istore (pc' := 2236) (ls' := [aR 1, aR 100, aR 448, aR 464, aR 465, aI i, aI 1, w7, w8]) i0_2234 (bt rfl) rfl rfl <| ok_aloadn (pc' := 2237) i0_2236 rfl rfl <| ok_cc i0_2237 rfl (cl_v o0 m13_306 na255 rfl rfl (bt rfl) (bt rfl) rfl (by rw [ShModel_k0 hS448, o255])) ln255 (pd255 (aR 448)) <| ok_aloadn (pc' := 1) i255_0 rfl rfl <| ok_cc i255_1 rfl (cl_v o255 m9_216 na188 rfl rfl (bt rfl) (bt rfl) rfl (by rw [ShModel_k0 hS448, o188])) ln188 (pd188 (aR 448)) <| ok_aloadn (pc' := 1) i188_0 rfl rfl <| ok_iconst (pc' := 2) i188_1 rfl <| ok_putfj (kk := 0) (pc' := 5) i188_2 o188 pi188_63 (ShModel_k0 hS448) rfl rfl <| ?_
  refine ok_aloadn (pc' := 6) i188_5 rfl rfl <| ok_aloadn (pc' := 7) i188_6 rfl rfl <| ok_getfi (v := 0) (pc' := 10) i188_7 o188 gi9_66 (ShModel_k0 hS448) (rd_ni (by decide) (hld.trans hl)) rfl <| ok_kz0 (pc1 := 17) (pc2 := 13) i188_10 (by decide) rfl rfl <| ok_iconst (pc' := 14) i188_13 rfl <| ok_goto (pc' := 18) i188_14 rfl <| ok_iconst (pc' := 19) i188_18 rfl <| ok_cc i188_19 rfl (cl_v o188 m9_70 na165 rfl rfl (bt rfl) (bt rfl) rfl (by rw [ShModel_k0 hS448, o165])) ln165 (pd165 (aR 448) (aI 1) (aI 1)) <| ?_
  refine ok_aloadn (pc' := 1) i165_0 rfl rfl <| ok_getfi (v := 0) (pc' := 4) i165_1 o165 gi9_63 (ShModel_k0 hS448) rd_eq rfl <| ok_kz0 (pc1 := 16) (pc2 := 7) i165_4 (by decide) rfl rfl <| ok_iloadn (pc' := 8) i165_7 rfl rfl <| ok_kz0 (pc1 := 16) (pc2 := 11) i165_8 (by decide) rfl rfl <| ok_aloadn (pc' := 12) i165_11 rfl rfl <| ok_iloadn (pc' := 13) i165_12 rfl rfl <| ok_putfj (kk := 0) (pc' := 16) i165_13 o165 pi165_63 (ShModel_k0 hS448) rfl rfl <| ?_
  refine ok_aloadn (pc' := 17) i165_16 rfl rfl <| ok_getfi (v := 1) (pc' := 20) i165_17 o165 gi9_63 (ShModel_k0 hS448) rd_eq rfl <| ok_kz0 (pc1 := 27) (pc2 := 23) i165_20 (by decide) rfl rfl <| ok_iconst (pc' := 24) i165_23 rfl <| ok_goto (pc' := 28) i165_24 rfl <| ok_iretz i165_28 rt165 (by decide) <| kt_v (pc' := 22) rfl <| ok_iretz i188_22 rt188 (by decide) <| ?_
  refine kt_v (pc' := 4) rfl <| ok_kz1 (pc1 := 17) (pc2 := 7) i255_4 (by decide) rfl rfl <| ok_dconst0 (pc' := 18) i255_17 rfl <| ok_goto (pc' := 38) i255_18 rfl <| ok_dret i255_38 rt255 <| kt_v (pc' := 2240) rfl <| ok_dstore (pc' := 2242) (ls' := [aR 1, aR 100, aR 448, aR 464, aR 465, aI i, aI 1, aD 0, aU]) i0_2240 (bt rfl) rfl rfl <| ok_aloadn (pc' := 2243) i0_2242 rfl rfl <| ?_
  refine ok_cc i0_2243 rfl (cl_v o0 m13_188 na157 rfl rfl (bt rfl) (bt rfl) rfl (by rw [ShModel_k0 hS448, o157])) ln157 (pd157 (aR 448)) <| ok_aloadn (pc' := 1) i157_0 rfl rfl <| ok_getfi (v := 1) (pc' := 4) i157_1 o157 gi9_63 (ShModel_k0 hS448) rd_eq rfl <| ok_ireti i157_4 rt157 <| kt_v (pc' := 2246) rfl <| ok_iload (pc' := 2248) i0_2246 rfl rfl <| ok_kc1 (pc1 := 2253) (pc2 := 2251) i0_2248 (by decide) rfl rfl <| ok_iload (pc' := 2255) i0_2253 rfl rfl <| ?_
  refine ok_kz1 (pc1 := 2290) (pc2 := 2258) i0_2255 (by decide) rfl rfl <| ok_goto (pc' := 3329) i0_2290 rfl <| ?_
  exact K _ _ _ _ _ _ hD (by omega) (Inv_mono (Inv_same hI (Same.thr (Same.thr Same.rfl))) (by omega))
theorem c37_1 {L n : Nat} {g : AG} {M : AM} {xs : Nat → Int32} {b i : Int} {w6 w7 w8 : AV} {Q : AO → AG → AM → Prop} (hD : HD L n g) (hI : Inv xs b M) (hi : 0 ≤ i ∧ i + 6 ≤ L) (hb : 0 ≤ b ∧ b ≤ 900000) (hl : M 100 6 = 1) (K : KK L n i b xs Q) :
    Ok 10 0 2228 [aR 1, aR 100, aR 448, aR 464, aR 465, aI i, w6, w7, w8] [] g M Q := by
  have hI0 := hI
  obtain ⟨hA, hld, hl01, q, hc, ⟨nx, sz, hH, hsz⟩, hS⟩ := hI0
  have hH0 := hH
  obtain ⟨⟨hn1, hn0⟩, ⟨hz2, hz0⟩, h10, hHj⟩ := hH0
  obtain ⟨hw0, ⟨bu, by_, hb1, hb13, hbu, hZ, hU⟩, he3, he4, he5, hId, tx, hT, hUt, htl, htr⟩ := hA
  have htz := hT.2.1
  obtain ⟨s, hP, hRB, hO, hV, hQ, h40⟩ := hc hl
  have ys3 := V_3 hV
  have ys4 := V_4 hV
  have yq0 := Q_0 hQ
  have yq1 := Q_1 hQ
  have hS100 := HD_y hD
  have hS149 := HD_b hD
  have hS448 := HD_o hD
  have hS465 := HD_ud hD
  refine ok_aloadn (pc' := 2229) i0_2228 rfl rfl <| ok_aload (pc' := 2231) i0_2229 rfl rfl <| ok_cc i0_2231 rfl (cl_s o0 m13_303 na311 rfl rfl (bt rfl) (bt rfl) rfl) ln311 (pd311 (aR 100) (aR 465)) <| ok_aloadn (pc' := 1) i311_0 rfl rfl <| ok_iconst (pc' := 2) i311_1 rfl <| ok_aloadn (pc' := 3) i311_2 rfl rfl <| ok_cc i311_3 rfl (cl_v o311 m13_116 na136 rfl rfl (bt rfl) (bt rfl) rfl (by rw [ShYard_k0 hS100, o136])) ln136 (pd136 (aR 100)) <| ok_aloadn (pc' := 1) i136_0 rfl rfl <| ?_
  refine ok_cc i136_1 rfl (cl_v o136 m0_132 na99 rfl rfl (bt rfl) (bt rfl) rfl (by rw [ShYard_k0 hS100, o99])) ln99 (pd99 (aR 100)) <| ok_aloadn (pc' := 1) i99_0 rfl rfl <| ok_getfi (v := 1) (pc' := 4) i99_1 o99 gi0_268 (ShYard_k0 hS100) hl rfl <| ok_kz1 (pc1 := 18) (pc2 := 7) i99_4 (by decide) rfl rfl <| ok_vret i99_18 rt99 <| kt_0 (pc' := 4) rfl <| ok_aloadn (pc' := 5) i136_4 rfl rfl <| ok_getfr (r := 149) (pc' := 8) i136_5 o136 gr0_39 (ShYard_k0 hS100) (ShYard_r8 hS100) rfl <| ?_
  refine ok_getfr (r := (149 + 23)) (pc' := 11) i136_8 o136 gr0_265 (ShState_k0 hS149) (ShState_r9 hS149) rfl <| ok_iconst (pc' := 12) i136_11 rfl <| ok_iaload (v := (s 11)) (pc' := 13) i136_12 (ShState_k23 hS149) (by decide) (ShState_l23 hS149) (by decide) (RepS_23_5 hRB) rfl <| ok_istoren (pc' := 14) (ls' := [aR 100, aI (s 11)]) i136_13 (bt rfl) rfl rfl <| ok_iloadn (pc' := 15) i136_14 rfl rfl <| ?_
  refine ok_znew (pc1 := 20) (pc2 := 18) i136_15 rfl rfl (fun h501 => ?_) (fun h501 => ?_)
  · refine ok_aloadn (pc' := 21) i136_20 rfl rfl <| ok_getfr (r := 149) (pc' := 24) i136_21 o136 gr0_39 (ShYard_k0 hS100) (ShYard_r8 hS100) rfl <| ok_getfr (r := (149 + 23)) (pc' := 27) i136_24 o136 gr0_265 (ShState_k0 hS149) (ShState_r9 hS149) rfl <| ok_iconst (pc' := 28) i136_27 rfl <| ok_iaload (v := (s 9)) (pc' := 29) i136_28 (ShState_k23 hS149) (by decide) (ShState_l23 hS149) (by decide) (RepS_23_3 hRB) rfl <| ok_i2d (pc' := 30) i136_29 rfl <| ok_iloadn (pc' := 31) i136_30 rfl rfl <| ok_i2d (pc' := 32) i136_31 rfl <| ?_
    refine ok_ddivq (pc' := 33) i136_32 h501 rfl <| ok_dret i136_33 rt136 <| kt_v (pc' := 6) rfl <| ok_dastore (pc' := 7) i311_6 (ShOutD_k0 hS465) (ShOutD_l0 hS465) (by decide) rfl <| ok_goto (pc' := 13) i311_7 rfl <| ok_iconst (pc' := 14) i311_13 rfl <| ok_ireti i311_14 rt311 <| kt_v (pc' := 2234) rfl <| ?_
    refine ok_istore (pc' := 2236) (ls' := [aR 1, aR 100, aR 448, aR 464, aR 465, aI i, aI 0, w7, w8]) i0_2234 (bt rfl) rfl rfl <| ok_aloadn (pc' := 2237) i0_2236 rfl rfl <| ok_cc i0_2237 rfl (cl_v o0 m13_306 na255 rfl rfl (bt rfl) (bt rfl) rfl (by rw [ShModel_k0 hS448, o255])) ln255 (pd255 (aR 448)) <| ok_aloadn (pc' := 1) i255_0 rfl rfl <| ok_cc i255_1 rfl (cl_v o255 m9_216 na188 rfl rfl (bt rfl) (bt rfl) rfl (by rw [ShModel_k0 hS448, o188])) ln188 (pd188 (aR 448)) <| ok_aloadn (pc' := 1) i188_0 rfl rfl <| ok_iconst (pc' := 2) i188_1 rfl <| ok_putfj (kk := 0) (pc' := 5) i188_2 o188 pi188_63 (ShModel_k0 hS448) rfl rfl <| ?_
    refine ok_aloadn (pc' := 6) i188_5 rfl rfl <| ok_aloadn (pc' := 7) i188_6 rfl rfl <| ok_getfi (v := 1) (pc' := 10) i188_7 o188 gi9_66 (ShModel_k0 hS448) (rd_ni (by decide) (rd_na (by omega) (hld.trans hl))) rfl <| ok_kz1 (pc1 := 17) (pc2 := 13) i188_10 (by decide) rfl rfl <| ok_iconst (pc' := 18) i188_17 rfl <| ok_iconst (pc' := 19) i188_18 rfl <| ok_cc i188_19 rfl (cl_v o188 m9_70 na165 rfl rfl (bt rfl) (bt rfl) rfl (by rw [ShModel_k0 hS448, o165])) ln165 (pd165 (aR 448) (aI 0) (aI 1)) <| ok_aloadn (pc' := 1) i165_0 rfl rfl <| ?_
    refine ok_getfi (v := 0) (pc' := 4) i165_1 o165 gi9_63 (ShModel_k0 hS448) rd_eq rfl <| ok_kz0 (pc1 := 16) (pc2 := 7) i165_4 (by decide) rfl rfl <| ok_iloadn (pc' := 8) i165_7 rfl rfl <| ok_kz1 (pc1 := 16) (pc2 := 11) i165_8 (by decide) rfl rfl <| ok_aloadn (pc' := 17) i165_16 rfl rfl <| ok_getfi (v := 0) (pc' := 20) i165_17 o165 gi9_63 (ShModel_k0 hS448) rd_eq rfl <| ok_kz1 (pc1 := 27) (pc2 := 23) i165_20 (by decide) rfl rfl <| ok_iconst (pc' := 28) i165_27 rfl <| ?_
    refine ok_iretz i165_28 rt165 (by decide) <| kt_v (pc' := 22) rfl <| ok_iretz i188_22 rt188 (by decide) <| kt_v (pc' := 4) rfl <| ok_kz0 (pc1 := 17) (pc2 := 7) i255_4 (by decide) rfl rfl <| ok_aloadn (pc' := 8) i255_7 rfl rfl <| ok_getfr (r := (448 + 5)) (pc' := 11) i255_8 o255 gr9_22 (ShModel_k0 hS448) (ShModel_r8 hS448) rfl <| ok_bipush (v := 11) (pc' := 13) i255_11 rfl rfl <| ?_
    refine ok_iaload (v := (s 11)) (pc' := 14) i255_13 (ShModel_k5 hS448) (by decide) (ShModel_l5 hS448) (by decide) (rd_na (by omega) (rd_na (by omega) (RepO_s hO))) rfl <| ?_
    refine ok_znew (pc1 := 21) (pc2 := 17) i255_14 rfl rfl (fun h502 => ?_) (fun h9 => by exfalso; omega)
    refine ok_aloadn (pc' := 22) i255_21 rfl rfl <| ok_getfr (r := (448 + 5)) (pc' := 25) i255_22 o255 gr9_22 (ShModel_k0 hS448) (ShModel_r8 hS448) rfl <| ok_bipush (v := 9) (pc' := 27) i255_25 rfl rfl <| ok_iaload (v := (s 9)) (pc' := 28) i255_27 (ShModel_k5 hS448) (by decide) (ShModel_l5 hS448) (by decide) (rd_na (by omega) (rd_na (by omega) (RepO_s hO))) rfl <| ok_i2d (pc' := 29) i255_28 rfl <| ok_aloadn (pc' := 30) i255_29 rfl rfl <| ok_getfr (r := (448 + 5)) (pc' := 33) i255_30 o255 gr9_22 (ShModel_k0 hS448) (ShModel_r8 hS448) rfl <| ok_bipush (v := 11) (pc' := 35) i255_33 rfl rfl <| ?_
    refine ok_iaload (v := (s 11)) (pc' := 36) i255_35 (ShModel_k5 hS448) (by decide) (ShModel_l5 hS448) (by decide) (rd_na (by omega) (rd_na (by omega) (RepO_s hO))) rfl <| ok_i2d (pc' := 37) i255_36 rfl <| ok_ddivq (pc' := 38) i255_37 h501 rfl <| ok_dret i255_38 rt255 <| kt_v (pc' := 2240) rfl <| ok_dstore (pc' := 2242) (ls' := [aR 1, aR 100, aR 448, aR 464, aR 465, aI i, aI 0, aD (ddq (s 9) (s 11)), aU]) i0_2240 (bt rfl) rfl rfl <| ok_aloadn (pc' := 2243) i0_2242 rfl rfl <| ok_cc i0_2243 rfl (cl_v o0 m13_188 na157 rfl rfl (bt rfl) (bt rfl) rfl (by rw [ShModel_k0 hS448, o157])) ln157 (pd157 (aR 448)) <| ?_
    refine ok_aloadn (pc' := 1) i157_0 rfl rfl <| ok_getfi (v := 0) (pc' := 4) i157_1 o157 gi9_63 (ShModel_k0 hS448) rd_eq rfl <| ok_ireti i157_4 rt157 <| kt_v (pc' := 2246) rfl <| ok_iload (pc' := 2248) i0_2246 rfl rfl <| ok_kc1 (pc1 := 2253) (pc2 := 2251) i0_2248 (by decide) rfl rfl <| ok_iload (pc' := 2255) i0_2253 rfl rfl <| ok_kz0 (pc1 := 2290) (pc2 := 2258) i0_2255 (by decide) rfl rfl <| ?_
    refine ok_aload (pc' := 2260) i0_2258 rfl rfl <| ok_iconst (pc' := 2261) i0_2260 rfl <| ok_daload (v := (ddq (s 9) (s 11))) (pc' := 2262) i0_2261 (ShOutD_k0 hS465) (ShOutD_l0 hS465) (by decide) (rd_na (by omega) rd_eq) rfl <| ok_dload (pc' := 2264) i0_2262 rfl rfl <| ok_dcmp0 (pc' := 2265) i0_2264 (ddq_nn h501) rfl <| ok_kz1 (pc1 := 2290) (pc2 := 2268) i0_2265 (by decide) rfl rfl <| ok_goto (pc' := 3329) i0_2290 rfl <| ?_
    exact K _ _ _ _ _ _ hD (by omega) (Inv_mono (Inv_same hI (Same.thr (Same.outd Same.rfl))) (by omega))
  · refine ok_dconst0 (pc' := 19) i136_18 rfl <| ok_dret i136_19 rt136 <| kt_v (pc' := 6) rfl <| ok_dastore (pc' := 7) i311_6 (ShOutD_k0 hS465) (ShOutD_l0 hS465) (by decide) rfl <| ok_goto (pc' := 13) i311_7 rfl <| ok_iconst (pc' := 14) i311_13 rfl <| ok_ireti i311_14 rt311 <| kt_v (pc' := 2234) rfl <| ?_
    refine ok_istore (pc' := 2236) (ls' := [aR 1, aR 100, aR 448, aR 464, aR 465, aI i, aI 0, w7, w8]) i0_2234 (bt rfl) rfl rfl <| ok_aloadn (pc' := 2237) i0_2236 rfl rfl <| ok_cc i0_2237 rfl (cl_v o0 m13_306 na255 rfl rfl (bt rfl) (bt rfl) rfl (by rw [ShModel_k0 hS448, o255])) ln255 (pd255 (aR 448)) <| ok_aloadn (pc' := 1) i255_0 rfl rfl <| ok_cc i255_1 rfl (cl_v o255 m9_216 na188 rfl rfl (bt rfl) (bt rfl) rfl (by rw [ShModel_k0 hS448, o188])) ln188 (pd188 (aR 448)) <| ok_aloadn (pc' := 1) i188_0 rfl rfl <| ok_iconst (pc' := 2) i188_1 rfl <| ok_putfj (kk := 0) (pc' := 5) i188_2 o188 pi188_63 (ShModel_k0 hS448) rfl rfl <| ?_
    refine ok_aloadn (pc' := 6) i188_5 rfl rfl <| ok_aloadn (pc' := 7) i188_6 rfl rfl <| ok_getfi (v := 1) (pc' := 10) i188_7 o188 gi9_66 (ShModel_k0 hS448) (rd_ni (by decide) (rd_na (by omega) (hld.trans hl))) rfl <| ok_kz1 (pc1 := 17) (pc2 := 13) i188_10 (by decide) rfl rfl <| ok_iconst (pc' := 18) i188_17 rfl <| ok_iconst (pc' := 19) i188_18 rfl <| ok_cc i188_19 rfl (cl_v o188 m9_70 na165 rfl rfl (bt rfl) (bt rfl) rfl (by rw [ShModel_k0 hS448, o165])) ln165 (pd165 (aR 448) (aI 0) (aI 1)) <| ok_aloadn (pc' := 1) i165_0 rfl rfl <| ?_
    refine ok_getfi (v := 0) (pc' := 4) i165_1 o165 gi9_63 (ShModel_k0 hS448) rd_eq rfl <| ok_kz0 (pc1 := 16) (pc2 := 7) i165_4 (by decide) rfl rfl <| ok_iloadn (pc' := 8) i165_7 rfl rfl <| ok_kz1 (pc1 := 16) (pc2 := 11) i165_8 (by decide) rfl rfl <| ok_aloadn (pc' := 17) i165_16 rfl rfl <| ok_getfi (v := 0) (pc' := 20) i165_17 o165 gi9_63 (ShModel_k0 hS448) rd_eq rfl <| ok_kz1 (pc1 := 27) (pc2 := 23) i165_20 (by decide) rfl rfl <| ok_iconst (pc' := 28) i165_27 rfl <| ?_
    refine ok_iretz i165_28 rt165 (by decide) <| kt_v (pc' := 22) rfl <| ok_iretz i188_22 rt188 (by decide) <| kt_v (pc' := 4) rfl <| ok_kz0 (pc1 := 17) (pc2 := 7) i255_4 (by decide) rfl rfl <| ok_aloadn (pc' := 8) i255_7 rfl rfl <| ok_getfr (r := (448 + 5)) (pc' := 11) i255_8 o255 gr9_22 (ShModel_k0 hS448) (ShModel_r8 hS448) rfl <| ok_bipush (v := 11) (pc' := 13) i255_11 rfl rfl <| ?_
    refine ok_iaload (v := (s 11)) (pc' := 14) i255_13 (ShModel_k5 hS448) (by decide) (ShModel_l5 hS448) (by decide) (rd_na (by omega) (rd_na (by omega) (RepO_s hO))) rfl <| ?_
    refine ok_znew (pc1 := 21) (pc2 := 17) i255_14 rfl rfl (fun h9 => by exfalso; omega) (fun h503 => ?_)
    refine ok_dconst0 (pc' := 18) i255_17 rfl <| ok_goto (pc' := 38) i255_18 rfl <| ok_dret i255_38 rt255 <| kt_v (pc' := 2240) rfl <| ok_dstore (pc' := 2242) (ls' := [aR 1, aR 100, aR 448, aR 464, aR 465, aI i, aI 0, aD 0, aU]) i0_2240 (bt rfl) rfl rfl <| ok_aloadn (pc' := 2243) i0_2242 rfl rfl <| ok_cc i0_2243 rfl (cl_v o0 m13_188 na157 rfl rfl (bt rfl) (bt rfl) rfl (by rw [ShModel_k0 hS448, o157])) ln157 (pd157 (aR 448)) <| ok_aloadn (pc' := 1) i157_0 rfl rfl <| ?_
    refine ok_getfi (v := 0) (pc' := 4) i157_1 o157 gi9_63 (ShModel_k0 hS448) rd_eq rfl <| ok_ireti i157_4 rt157 <| kt_v (pc' := 2246) rfl <| ok_iload (pc' := 2248) i0_2246 rfl rfl <| ok_kc1 (pc1 := 2253) (pc2 := 2251) i0_2248 (by decide) rfl rfl <| ok_iload (pc' := 2255) i0_2253 rfl rfl <| ok_kz0 (pc1 := 2290) (pc2 := 2258) i0_2255 (by decide) rfl rfl <| ok_aload (pc' := 2260) i0_2258 rfl rfl <| ?_
    refine ok_iconst (pc' := 2261) i0_2260 rfl <| ok_daload (v := 0) (pc' := 2262) i0_2261 (ShOutD_k0 hS465) (ShOutD_l0 hS465) (by decide) (rd_na (by omega) rd_eq) rfl <| ok_dload (pc' := 2264) i0_2262 rfl rfl <| ok_dcmp0 (pc' := 2265) i0_2264 nn0 rfl <| ok_kz1 (pc1 := 2290) (pc2 := 2268) i0_2265 (by decide) rfl rfl <| ok_goto (pc' := 3329) i0_2290 rfl <| ?_
    exact K _ _ _ _ _ _ hD (by omega) (Inv_mono (Inv_same hI (Same.thr (Same.outd Same.rfl))) (by omega))
theorem c38_0 {L n : Nat} {g : AG} {M : AM} {xs : Nat → Int32} {b i : Int} {w6 w7 w8 : AV} {Q : AO → AG → AM → Prop} (hD : HD L n g) (hI : Inv xs b M) (hi : 0 ≤ i ∧ i + 6 ≤ L) (hb : 0 ≤ b ∧ b ≤ 900000) (hl : M 100 6 = 0) (K : KK L n i b xs Q) :
    Ok 10 0 2293 [aR 1, aR 100, aR 448, aR 464, aR 465, aI i, w6, w7, w8] [] g M Q := by
  have hI0 := hI
  obtain ⟨hA, hld, hl01, q, hc, ⟨nx, sz, hH, hsz⟩, hS⟩ := hI0
  have hH0 := hH
  obtain ⟨⟨hn1, hn0⟩, ⟨hz2, hz0⟩, h10, hHj⟩ := hH0
  obtain ⟨hw0, ⟨bu, by_, hb1, hb13, hbu, hZ, hU⟩, he3, he4, he5, hId, tx, hT, hUt, htl, htr⟩ := hA
  have htz := hT.2.1
  have hS1 := HD_s hD
  have hS100 := HD_y hD
  have hS448 := HD_o hD
  have hS464 := HD_u hD
  have hS465 := HD_ud hD
  refine ok_aloadn (pc' := 2294) i0_2293 rfl rfl <| ok_aload (pc' := 2296) i0_2294 rfl rfl <| ok_cc i0_2296 rfl (cl_s o0 m13_307 na312 rfl rfl (bt rfl) (bt rfl) rfl) ln312 (pd312 (aR 100) (aR 465)) <| ok_aloadn (pc' := 1) i312_0 rfl rfl <| ok_iconst (pc' := 2) i312_1 rfl <| ok_aloadn (pc' := 3) i312_2 rfl rfl <| ok_cc i312_3 rfl (cl_v o312 m13_120 na137 rfl rfl (bt rfl) (bt rfl) rfl (by rw [ShYard_k0 hS100, o137])) ln137 (pd137 (aR 100)) <| ok_aloadn (pc' := 1) i137_0 rfl rfl <| ?_
  refine ok_cc i137_1 rfl (cl_v o137 m0_132 na99 rfl rfl (bt rfl) (bt rfl) rfl (by rw [ShYard_k0 hS100, o99])) ln99 (pd99 (aR 100)) <| ok_aloadn (pc' := 1) i99_0 rfl rfl <| ok_getfi (v := 0) (pc' := 4) i99_1 o99 gi0_268 (ShYard_k0 hS100) hl rfl <| ok_kz0 (pc1 := 18) (pc2 := 7) i99_4 (by decide) rfl rfl <| ok_throw th99_7 (bt rfl) <| kt_x hh137 <| kt_h hn312 hf312_3_12 hr312_11 <| kt_v (pc' := 2299) rfl <| ?_
  refine ok_al hD (fun g hD => ?_)
  have hS448 := HD_o hD
  have hS1 := HD_s hD
  have hS464 := HD_u hD
  have hS465 := HD_ud hD
  refine ok_istore (pc' := 2301) (ls' := [aR 1, aR 100, aR 448, aR 464, aR 465, aI i, aI 1, w7, w8]) i0_2299 (bt rfl) rfl rfl <| ok_aloadn (pc' := 2302) i0_2301 rfl rfl <| ok_cc i0_2302 rfl (cl_v o0 m13_309 na256 rfl rfl (bt rfl) (bt rfl) rfl (by rw [ShModel_k0 hS448, o256])) ln256 (pd256 (aR 448)) <| ok_aloadn (pc' := 1) i256_0 rfl rfl <| ok_cc i256_1 rfl (cl_v o256 m9_216 na188 rfl rfl (bt rfl) (bt rfl) rfl (by rw [ShModel_k0 hS448, o188])) ln188 (pd188 (aR 448)) <| ok_aloadn (pc' := 1) i188_0 rfl rfl <| ok_iconst (pc' := 2) i188_1 rfl <| ok_putfj (kk := 0) (pc' := 5) i188_2 o188 pi188_63 (ShModel_k0 hS448) rfl rfl <| ?_
  refine ok_aloadn (pc' := 6) i188_5 rfl rfl <| ok_aloadn (pc' := 7) i188_6 rfl rfl <| ok_getfi (v := 0) (pc' := 10) i188_7 o188 gi9_66 (ShModel_k0 hS448) (rd_ni (by decide) (hld.trans hl)) rfl <| ok_kz0 (pc1 := 17) (pc2 := 13) i188_10 (by decide) rfl rfl <| ok_iconst (pc' := 14) i188_13 rfl <| ok_goto (pc' := 18) i188_14 rfl <| ok_iconst (pc' := 19) i188_18 rfl <| ok_cc i188_19 rfl (cl_v o188 m9_70 na165 rfl rfl (bt rfl) (bt rfl) rfl (by rw [ShModel_k0 hS448, o165])) ln165 (pd165 (aR 448) (aI 1) (aI 1)) <| ?_
  refine ok_aloadn (pc' := 1) i165_0 rfl rfl <| ok_getfi (v := 0) (pc' := 4) i165_1 o165 gi9_63 (ShModel_k0 hS448) rd_eq rfl <| ok_kz0 (pc1 := 16) (pc2 := 7) i165_4 (by decide) rfl rfl <| ok_iloadn (pc' := 8) i165_7 rfl rfl <| ok_kz0 (pc1 := 16) (pc2 := 11) i165_8 (by decide) rfl rfl <| ok_aloadn (pc' := 12) i165_11 rfl rfl <| ok_iloadn (pc' := 13) i165_12 rfl rfl <| ok_putfj (kk := 0) (pc' := 16) i165_13 o165 pi165_63 (ShModel_k0 hS448) rfl rfl <| ?_
  refine ok_aloadn (pc' := 17) i165_16 rfl rfl <| ok_getfi (v := 1) (pc' := 20) i165_17 o165 gi9_63 (ShModel_k0 hS448) rd_eq rfl <| ok_kz0 (pc1 := 27) (pc2 := 23) i165_20 (by decide) rfl rfl <| ok_iconst (pc' := 24) i165_23 rfl <| ok_goto (pc' := 28) i165_24 rfl <| ok_iretz i165_28 rt165 (by decide) <| kt_v (pc' := 22) rfl <| ok_iretz i188_22 rt188 (by decide) <| ?_
  refine kt_v (pc' := 4) rfl <| ok_kz0 (pc1 := 9) (pc2 := 7) i256_4 (by decide) rfl rfl <| ok_fconst0 (pc' := 8) i256_7 rfl <| ok_fret i256_8 rt256 <| kt_v (pc' := 2305) rfl <| ok_fstore (pc' := 2307) (ls' := [aR 1, aR 100, aR 448, aR 464, aR 465, aI i, aI 1, aF 0, w8]) i0_2305 (bt rfl) rfl rfl <| ok_aloadn (pc' := 2308) i0_2307 rfl rfl <| ok_cc i0_2308 rfl (cl_v o0 m13_188 na157 rfl rfl (bt rfl) (bt rfl) rfl (by rw [ShModel_k0 hS448, o157])) ln157 (pd157 (aR 448)) <| ?_
  refine ok_aloadn (pc' := 1) i157_0 rfl rfl <| ok_getfi (v := 1) (pc' := 4) i157_1 o157 gi9_63 (ShModel_k0 hS448) rd_eq rfl <| ok_ireti i157_4 rt157 <| kt_v (pc' := 2311) rfl <| ok_iload (pc' := 2313) i0_2311 rfl rfl <| ok_kc1 (pc1 := 2318) (pc2 := 2316) i0_2313 (by decide) rfl rfl <| ok_iload (pc' := 2320) i0_2318 rfl rfl <| ok_kz1 (pc1 := 2356) (pc2 := 2323) i0_2320 (by decide) rfl rfl <| ?_
  refine ok_goto (pc' := 3329) i0_2356 rfl <| ?_
  exact K _ _ _ _ _ _ hD (by omega) (Inv_mono (Inv_same hI (Same.thr (Same.thr Same.rfl))) (by omega))
theorem c38_1 {L n : Nat} {g : AG} {M : AM} {xs : Nat → Int32} {b i : Int} {w6 w7 w8 : AV} {Q : AO → AG → AM → Prop} (hD : HD L n g) (hI : Inv xs b M) (hi : 0 ≤ i ∧ i + 6 ≤ L) (hb : 0 ≤ b ∧ b ≤ 900000) (hl : M 100 6 = 1) (K : KK L n i b xs Q) :
    Ok 10 0 2293 [aR 1, aR 100, aR 448, aR 464, aR 465, aI i, w6, w7, w8] [] g M Q := by
  have hI0 := hI
  obtain ⟨hA, hld, hl01, q, hc, ⟨nx, sz, hH, hsz⟩, hS⟩ := hI0
  have hH0 := hH
  obtain ⟨⟨hn1, hn0⟩, ⟨hz2, hz0⟩, h10, hHj⟩ := hH0
  obtain ⟨hw0, ⟨bu, by_, hb1, hb13, hbu, hZ, hU⟩, he3, he4, he5, hId, tx, hT, hUt, htl, htr⟩ := hA
  have htz := hT.2.1
  obtain ⟨s, hP, hRB, hO, hV, hQ, h40⟩ := hc hl
  have ys3 := V_3 hV
  have ys4 := V_4 hV
  have yq0 := Q_0 hQ
  have yq1 := Q_1 hQ
  have hS100 := HD_y hD
  have hS149 := HD_b hD
  have hS448 := HD_o hD
  have hS465 := HD_ud hD
  refine ok_aloadn (pc' := 2294) i0_2293 rfl rfl <| ok_aload (pc' := 2296) i0_2294 rfl rfl <| ok_cc i0_2296 rfl (cl_s o0 m13_307 na312 rfl rfl (bt rfl) (bt rfl) rfl) ln312 (pd312 (aR 100) (aR 465)) <| ok_aloadn (pc' := 1) i312_0 rfl rfl <| ok_iconst (pc' := 2) i312_1 rfl <| ok_aloadn (pc' := 3) i312_2 rfl rfl <| ok_cc i312_3 rfl (cl_v o312 m13_120 na137 rfl rfl (bt rfl) (bt rfl) rfl (by rw [ShYard_k0 hS100, o137])) ln137 (pd137 (aR 100)) <| ok_aloadn (pc' := 1) i137_0 rfl rfl <| ?_
  refine ok_cc i137_1 rfl (cl_v o137 m0_132 na99 rfl rfl (bt rfl) (bt rfl) rfl (by rw [ShYard_k0 hS100, o99])) ln99 (pd99 (aR 100)) <| ok_aloadn (pc' := 1) i99_0 rfl rfl <| ok_getfi (v := 1) (pc' := 4) i99_1 o99 gi0_268 (ShYard_k0 hS100) hl rfl <| ok_kz1 (pc1 := 18) (pc2 := 7) i99_4 (by decide) rfl rfl <| ok_vret i99_18 rt99 <| kt_0 (pc' := 4) rfl <| ok_aloadn (pc' := 5) i137_4 rfl rfl <| ok_getfr (r := 149) (pc' := 8) i137_5 o137 gr0_39 (ShYard_k0 hS100) (ShYard_r8 hS100) rfl <| ?_
  refine ok_getfr (r := (149 + 23)) (pc' := 11) i137_8 o137 gr0_265 (ShState_k0 hS149) (ShState_r9 hS149) rfl <| ok_bipush (v := 7) (pc' := 13) i137_11 rfl rfl <| ok_iaload (v := (s 13)) (pc' := 14) i137_13 (ShState_k23 hS149) (by decide) (ShState_l23 hS149) (by decide) (RepS_23_7 hRB) rfl <| ok_istoren (pc' := 15) (ls' := [aR 100, aI (s 13), aU]) i137_14 (bt rfl) rfl rfl <| ok_iloadn (pc' := 16) i137_15 rfl rfl <| ok_aloadn (pc' := 17) i137_16 rfl rfl <| ok_getfr (r := 149) (pc' := 20) i137_17 o137 gr0_39 (ShYard_k0 hS100) (ShYard_r8 hS100) rfl <| ok_getfr (r := (149 + 23)) (pc' := 23) i137_20 o137 gr0_265 (ShState_k0 hS149) (ShState_r9 hS149) rfl <| ?_
  refine ok_iconst (pc' := 24) i137_23 rfl <| ok_iaload (v := (s 7)) (pc' := 25) i137_24 (ShState_k23 hS149) (by decide) (ShState_l23 hS149) (by decide) (RepS_23_1 hRB) rfl <| ok_iadd (v := ((s 13) + (s 7))) (pc' := 26) i137_25 rfl rfl <| ok_aloadn (pc' := 27) i137_26 rfl rfl <| ok_getfr (r := 149) (pc' := 30) i137_27 o137 gr0_39 (ShYard_k0 hS100) (ShYard_r8 hS100) rfl <| ok_getfr (r := (149 + 23)) (pc' := 33) i137_30 o137 gr0_265 (ShState_k0 hS149) (ShState_r9 hS149) rfl <| ok_iconst (pc' := 34) i137_33 rfl <| ok_iaload (v := (s 8)) (pc' := 35) i137_34 (ShState_k23 hS149) (by decide) (ShState_l23 hS149) (by decide) (RepS_23_2 hRB) rfl <| ?_
  refine ok_iadd (v := (((s 13) + (s 7)) + (s 8))) (pc' := 36) i137_35 rfl rfl <| ok_istoren (pc' := 37) (ls' := [aR 100, aI (s 13), aI (((s 13) + (s 7)) + (s 8))]) i137_36 (bt rfl) rfl rfl <| ok_iloadn (pc' := 38) i137_37 rfl rfl <| ?_
  refine ok_znew (pc1 := 43) (pc2 := 41) i137_38 rfl rfl (fun h501 => ?_) (fun h501 => ?_)
  · refine ok_iloadn (pc' := 44) i137_43 rfl rfl <| ok_i2f (pc' := 45) i137_44 rfl <| ok_iloadn (pc' := 46) i137_45 rfl rfl <| ok_i2f (pc' := 47) i137_46 rfl <| ok_fdivq (pc' := 48) i137_47 h501 rfl <| ok_fret i137_48 rt137 <| kt_v (pc' := 6) rfl <| ok_f2dq (pc' := 7) i312_6 (fdq_nf h501) rfl <| ?_
    refine ok_dastore (pc' := 8) i312_7 (ShOutD_k0 hS465) (ShOutD_l0 hS465) (by decide) rfl <| ok_goto (pc' := 14) i312_8 rfl <| ok_iconst (pc' := 15) i312_14 rfl <| ok_ireti i312_15 rt312 <| kt_v (pc' := 2299) rfl <| ok_istore (pc' := 2301) (ls' := [aR 1, aR 100, aR 448, aR 464, aR 465, aI i, aI 0, w7, w8]) i0_2299 (bt rfl) rfl rfl <| ok_aloadn (pc' := 2302) i0_2301 rfl rfl <| ok_cc i0_2302 rfl (cl_v o0 m13_309 na256 rfl rfl (bt rfl) (bt rfl) rfl (by rw [ShModel_k0 hS448, o256])) ln256 (pd256 (aR 448)) <| ?_
    refine ok_aloadn (pc' := 1) i256_0 rfl rfl <| ok_cc i256_1 rfl (cl_v o256 m9_216 na188 rfl rfl (bt rfl) (bt rfl) rfl (by rw [ShModel_k0 hS448, o188])) ln188 (pd188 (aR 448)) <| ok_aloadn (pc' := 1) i188_0 rfl rfl <| ok_iconst (pc' := 2) i188_1 rfl <| ok_putfj (kk := 0) (pc' := 5) i188_2 o188 pi188_63 (ShModel_k0 hS448) rfl rfl <| ok_aloadn (pc' := 6) i188_5 rfl rfl <| ok_aloadn (pc' := 7) i188_6 rfl rfl <| ok_getfi (v := 1) (pc' := 10) i188_7 o188 gi9_66 (ShModel_k0 hS448) (rd_ni (by decide) (rd_na (by omega) (hld.trans hl))) rfl <| ?_
    refine ok_kz1 (pc1 := 17) (pc2 := 13) i188_10 (by decide) rfl rfl <| ok_iconst (pc' := 18) i188_17 rfl <| ok_iconst (pc' := 19) i188_18 rfl <| ok_cc i188_19 rfl (cl_v o188 m9_70 na165 rfl rfl (bt rfl) (bt rfl) rfl (by rw [ShModel_k0 hS448, o165])) ln165 (pd165 (aR 448) (aI 0) (aI 1)) <| ok_aloadn (pc' := 1) i165_0 rfl rfl <| ok_getfi (v := 0) (pc' := 4) i165_1 o165 gi9_63 (ShModel_k0 hS448) rd_eq rfl <| ok_kz0 (pc1 := 16) (pc2 := 7) i165_4 (by decide) rfl rfl <| ok_iloadn (pc' := 8) i165_7 rfl rfl <| ?_
    refine ok_kz1 (pc1 := 16) (pc2 := 11) i165_8 (by decide) rfl rfl <| ok_aloadn (pc' := 17) i165_16 rfl rfl <| ok_getfi (v := 0) (pc' := 20) i165_17 o165 gi9_63 (ShModel_k0 hS448) rd_eq rfl <| ok_kz1 (pc1 := 27) (pc2 := 23) i165_20 (by decide) rfl rfl <| ok_iconst (pc' := 28) i165_27 rfl <| ok_iretz i165_28 rt165 (by decide) <| kt_v (pc' := 22) rfl <| ok_iretz i188_22 rt188 (by decide) <| ?_
    refine kt_v (pc' := 4) rfl <| ok_kz1 (pc1 := 9) (pc2 := 7) i256_4 (by decide) rfl rfl <| ok_aloadn (pc' := 10) i256_9 rfl rfl <| ok_getfr (r := (448 + 5)) (pc' := 13) i256_10 o256 gr9_22 (ShModel_k0 hS448) (ShModel_r8 hS448) rfl <| ok_bipush (v := 13) (pc' := 15) i256_13 rfl rfl <| ok_iaload (v := (s 13)) (pc' := 16) i256_15 (ShModel_k5 hS448) (by decide) (ShModel_l5 hS448) (by decide) (rd_na (by omega) (rd_na (by omega) (RepO_s hO))) rfl <| ok_aloadn (pc' := 17) i256_16 rfl rfl <| ok_getfr (r := (448 + 5)) (pc' := 20) i256_17 o256 gr9_22 (ShModel_k0 hS448) (ShModel_r8 hS448) rfl <| ?_
    refine ok_bipush (v := 7) (pc' := 22) i256_20 rfl rfl <| ok_iaload (v := (s 7)) (pc' := 23) i256_22 (ShModel_k5 hS448) (by decide) (ShModel_l5 hS448) (by decide) (rd_na (by omega) (rd_na (by omega) (RepO_s hO))) rfl <| ok_iadd (v := ((s 13) + (s 7))) (pc' := 24) i256_23 rfl rfl <| ok_aloadn (pc' := 25) i256_24 rfl rfl <| ok_getfr (r := (448 + 5)) (pc' := 28) i256_25 o256 gr9_22 (ShModel_k0 hS448) (ShModel_r8 hS448) rfl <| ok_bipush (v := 8) (pc' := 30) i256_28 rfl rfl <| ok_iaload (v := (s 8)) (pc' := 31) i256_30 (ShModel_k5 hS448) (by decide) (ShModel_l5 hS448) (by decide) (rd_na (by omega) (rd_na (by omega) (RepO_s hO))) rfl <| ok_iadd (v := (((s 13) + (s 7)) + (s 8))) (pc' := 32) i256_31 rfl rfl <| ?_
    refine ok_istoren (pc' := 33) (ls' := [aR 448, aI (((s 13) + (s 7)) + (s 8))]) i256_32 (bt rfl) rfl rfl <| ok_iloadn (pc' := 34) i256_33 rfl rfl <| ?_
    refine ok_znew (pc1 := 41) (pc2 := 37) i256_34 rfl rfl (fun h502 => ?_) (fun h9 => by exfalso; omega)
    refine ok_aloadn (pc' := 42) i256_41 rfl rfl <| ok_getfr (r := (448 + 5)) (pc' := 45) i256_42 o256 gr9_22 (ShModel_k0 hS448) (ShModel_r8 hS448) rfl <| ok_bipush (v := 13) (pc' := 47) i256_45 rfl rfl <| ok_iaload (v := (s 13)) (pc' := 48) i256_47 (ShModel_k5 hS448) (by decide) (ShModel_l5 hS448) (by decide) (rd_na (by omega) (rd_na (by omega) (RepO_s hO))) rfl <| ok_i2f (pc' := 49) i256_48 rfl <| ok_iloadn (pc' := 50) i256_49 rfl rfl <| ok_i2f (pc' := 51) i256_50 rfl <| ok_fdivq (pc' := 52) i256_51 h501 rfl <| ?_
    refine ok_fret i256_52 rt256 <| kt_v (pc' := 2305) rfl <| ok_fstore (pc' := 2307) (ls' := [aR 1, aR 100, aR 448, aR 464, aR 465, aI i, aI 0, aF (fdq (s 13) (((s 13) + (s 7)) + (s 8))), w8]) i0_2305 (bt rfl) rfl rfl <| ok_aloadn (pc' := 2308) i0_2307 rfl rfl <| ok_cc i0_2308 rfl (cl_v o0 m13_188 na157 rfl rfl (bt rfl) (bt rfl) rfl (by rw [ShModel_k0 hS448, o157])) ln157 (pd157 (aR 448)) <| ok_aloadn (pc' := 1) i157_0 rfl rfl <| ok_getfi (v := 0) (pc' := 4) i157_1 o157 gi9_63 (ShModel_k0 hS448) rd_eq rfl <| ok_ireti i157_4 rt157 <| ?_
    refine kt_v (pc' := 2311) rfl <| ok_iload (pc' := 2313) i0_2311 rfl rfl <| ok_kc1 (pc1 := 2318) (pc2 := 2316) i0_2313 (by decide) rfl rfl <| ok_iload (pc' := 2320) i0_2318 rfl rfl <| ok_kz0 (pc1 := 2356) (pc2 := 2323) i0_2320 (by decide) rfl rfl <| ok_aload (pc' := 2325) i0_2323 rfl rfl <| ok_iconst (pc' := 2326) i0_2325 rfl <| ok_daload (v := (f2dN (fdq (s 13) (((s 13) + (s 7)) + (s 8))))) (pc' := 2327) i0_2326 (ShOutD_k0 hS465) (ShOutD_l0 hS465) (by decide) (rd_na (by omega) rd_eq) rfl <| ?_
    refine ok_fload (pc' := 2329) i0_2327 rfl rfl <| ok_f2dq (pc' := 2330) i0_2329 (fdq_nf h501) rfl <| ok_dcmp0 (pc' := 2331) i0_2330 (f2dN_nn (fdq_nf h501)) rfl <| ok_kz1 (pc1 := 2356) (pc2 := 2334) i0_2331 (by decide) rfl rfl <| ok_goto (pc' := 3329) i0_2356 rfl <| ?_
    exact K _ _ _ _ _ _ hD (by omega) (Inv_mono (Inv_same hI (Same.thr (Same.outd Same.rfl))) (by omega))
  · refine ok_fconst0 (pc' := 42) i137_41 rfl <| ok_fret i137_42 rt137 <| kt_v (pc' := 6) rfl <| ok_f2dq (pc' := 7) i312_6 nf0 rfl <| ok_dastore (pc' := 8) i312_7 (ShOutD_k0 hS465) (ShOutD_l0 hS465) (by decide) rfl <| ok_goto (pc' := 14) i312_8 rfl <| ok_iconst (pc' := 15) i312_14 rfl <| ok_ireti i312_15 rt312 <| ?_
    refine kt_v (pc' := 2299) rfl <| ok_istore (pc' := 2301) (ls' := [aR 1, aR 100, aR 448, aR 464, aR 465, aI i, aI 0, w7, w8]) i0_2299 (bt rfl) rfl rfl <| ok_aloadn (pc' := 2302) i0_2301 rfl rfl <| ok_cc i0_2302 rfl (cl_v o0 m13_309 na256 rfl rfl (bt rfl) (bt rfl) rfl (by rw [ShModel_k0 hS448, o256])) ln256 (pd256 (aR 448)) <| ok_aloadn (pc' := 1) i256_0 rfl rfl <| ok_cc i256_1 rfl (cl_v o256 m9_216 na188 rfl rfl (bt rfl) (bt rfl) rfl (by rw [ShModel_k0 hS448, o188])) ln188 (pd188 (aR 448)) <| ok_aloadn (pc' := 1) i188_0 rfl rfl <| ok_iconst (pc' := 2) i188_1 rfl <| ?_
    refine ok_putfj (kk := 0) (pc' := 5) i188_2 o188 pi188_63 (ShModel_k0 hS448) rfl rfl <| ok_aloadn (pc' := 6) i188_5 rfl rfl <| ok_aloadn (pc' := 7) i188_6 rfl rfl <| ok_getfi (v := 1) (pc' := 10) i188_7 o188 gi9_66 (ShModel_k0 hS448) (rd_ni (by decide) (rd_na (by omega) (hld.trans hl))) rfl <| ok_kz1 (pc1 := 17) (pc2 := 13) i188_10 (by decide) rfl rfl <| ok_iconst (pc' := 18) i188_17 rfl <| ok_iconst (pc' := 19) i188_18 rfl <| ok_cc i188_19 rfl (cl_v o188 m9_70 na165 rfl rfl (bt rfl) (bt rfl) rfl (by rw [ShModel_k0 hS448, o165])) ln165 (pd165 (aR 448) (aI 0) (aI 1)) <| ?_
    refine ok_aloadn (pc' := 1) i165_0 rfl rfl <| ok_getfi (v := 0) (pc' := 4) i165_1 o165 gi9_63 (ShModel_k0 hS448) rd_eq rfl <| ok_kz0 (pc1 := 16) (pc2 := 7) i165_4 (by decide) rfl rfl <| ok_iloadn (pc' := 8) i165_7 rfl rfl <| ok_kz1 (pc1 := 16) (pc2 := 11) i165_8 (by decide) rfl rfl <| ok_aloadn (pc' := 17) i165_16 rfl rfl <| ok_getfi (v := 0) (pc' := 20) i165_17 o165 gi9_63 (ShModel_k0 hS448) rd_eq rfl <| ok_kz1 (pc1 := 27) (pc2 := 23) i165_20 (by decide) rfl rfl <| ?_
    refine ok_iconst (pc' := 28) i165_27 rfl <| ok_iretz i165_28 rt165 (by decide) <| kt_v (pc' := 22) rfl <| ok_iretz i188_22 rt188 (by decide) <| kt_v (pc' := 4) rfl <| ok_kz1 (pc1 := 9) (pc2 := 7) i256_4 (by decide) rfl rfl <| ok_aloadn (pc' := 10) i256_9 rfl rfl <| ok_getfr (r := (448 + 5)) (pc' := 13) i256_10 o256 gr9_22 (ShModel_k0 hS448) (ShModel_r8 hS448) rfl <| ?_
    refine ok_bipush (v := 13) (pc' := 15) i256_13 rfl rfl <| ok_iaload (v := (s 13)) (pc' := 16) i256_15 (ShModel_k5 hS448) (by decide) (ShModel_l5 hS448) (by decide) (rd_na (by omega) (rd_na (by omega) (RepO_s hO))) rfl <| ok_aloadn (pc' := 17) i256_16 rfl rfl <| ok_getfr (r := (448 + 5)) (pc' := 20) i256_17 o256 gr9_22 (ShModel_k0 hS448) (ShModel_r8 hS448) rfl <| ok_bipush (v := 7) (pc' := 22) i256_20 rfl rfl <| ok_iaload (v := (s 7)) (pc' := 23) i256_22 (ShModel_k5 hS448) (by decide) (ShModel_l5 hS448) (by decide) (rd_na (by omega) (rd_na (by omega) (RepO_s hO))) rfl <| ok_iadd (v := ((s 13) + (s 7))) (pc' := 24) i256_23 rfl rfl <| ok_aloadn (pc' := 25) i256_24 rfl rfl <| ?_
    refine ok_getfr (r := (448 + 5)) (pc' := 28) i256_25 o256 gr9_22 (ShModel_k0 hS448) (ShModel_r8 hS448) rfl <| ok_bipush (v := 8) (pc' := 30) i256_28 rfl rfl <| ok_iaload (v := (s 8)) (pc' := 31) i256_30 (ShModel_k5 hS448) (by decide) (ShModel_l5 hS448) (by decide) (rd_na (by omega) (rd_na (by omega) (RepO_s hO))) rfl <| ok_iadd (v := (((s 13) + (s 7)) + (s 8))) (pc' := 32) i256_31 rfl rfl <| ok_istoren (pc' := 33) (ls' := [aR 448, aI (((s 13) + (s 7)) + (s 8))]) i256_32 (bt rfl) rfl rfl <| ok_iloadn (pc' := 34) i256_33 rfl rfl <| ?_
    refine ok_znew (pc1 := 41) (pc2 := 37) i256_34 rfl rfl (fun h9 => by exfalso; omega) (fun h503 => ?_)
    refine ok_fconst0 (pc' := 38) i256_37 rfl <| ok_goto (pc' := 52) i256_38 rfl <| ok_fret i256_52 rt256 <| kt_v (pc' := 2305) rfl <| ok_fstore (pc' := 2307) (ls' := [aR 1, aR 100, aR 448, aR 464, aR 465, aI i, aI 0, aF 0, w8]) i0_2305 (bt rfl) rfl rfl <| ok_aloadn (pc' := 2308) i0_2307 rfl rfl <| ok_cc i0_2308 rfl (cl_v o0 m13_188 na157 rfl rfl (bt rfl) (bt rfl) rfl (by rw [ShModel_k0 hS448, o157])) ln157 (pd157 (aR 448)) <| ok_aloadn (pc' := 1) i157_0 rfl rfl <| ?_
    refine ok_getfi (v := 0) (pc' := 4) i157_1 o157 gi9_63 (ShModel_k0 hS448) rd_eq rfl <| ok_ireti i157_4 rt157 <| kt_v (pc' := 2311) rfl <| ok_iload (pc' := 2313) i0_2311 rfl rfl <| ok_kc1 (pc1 := 2318) (pc2 := 2316) i0_2313 (by decide) rfl rfl <| ok_iload (pc' := 2320) i0_2318 rfl rfl <| ok_kz0 (pc1 := 2356) (pc2 := 2323) i0_2320 (by decide) rfl rfl <| ok_aload (pc' := 2325) i0_2323 rfl rfl <| ?_
    refine ok_iconst (pc' := 2326) i0_2325 rfl <| ok_daload (v := (f2dN 0)) (pc' := 2327) i0_2326 (ShOutD_k0 hS465) (ShOutD_l0 hS465) (by decide) (rd_na (by omega) rd_eq) rfl <| ok_fload (pc' := 2329) i0_2327 rfl rfl <| ok_f2dq (pc' := 2330) i0_2329 nf0 rfl <| ok_dcmp0 (pc' := 2331) i0_2330 (f2dN_nn nf0) rfl <| ok_kz1 (pc1 := 2356) (pc2 := 2334) i0_2331 (by decide) rfl rfl <| ok_goto (pc' := 3329) i0_2356 rfl <| ?_
    exact K _ _ _ _ _ _ hD (by omega) (Inv_mono (Inv_same hI (Same.thr (Same.outd Same.rfl))) (by omega))
