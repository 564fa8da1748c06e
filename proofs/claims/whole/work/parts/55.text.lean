/-! TEXTS: the order; the reference (by program, wip/gen) -/
def txg (i : Int) : Int := (am_txt.getD 7 []).getD i.toNat 0
theorem sayW_gone {t : Tx} : sayW t txg 5 = goneX t := rfl
theorem goneX_1 {t : Tx} : (goneX t).1 = t.1 + 5 := by
  show t.1 + 1 + 1 + 1 + 1 + 1 = _
  omega
theorem o141 : am_oc 141 = 0 := by decide +kernel
theorem m0_180 : am_mlk 0 180 0 106 = true := by decide +kernel
theorem na106 : am_na 106 = 1 := by decide +kernel
theorem nl106 : am_nL 106 = 2 := by decide +kernel
theorem pd106 : ∀ a0 a1 : AV, am_pad 106 [a0, a1] = [a0, a1] := by intros; unfold am_pad; rw [nl106]; rfl
theorem ln106 : 2 ≤ am_nL 106 := by rw [nl106]; decide
theorem o106 : am_oc 106 = 0 := by decide +kernel
theorem rt106 : am_rt 106 = none := by decide +kernel
theorem pi141_280 : am_pfi 141 0 280 6 1 = true := by decide +kernel
theorem rt141 : am_rt 141 = some .int := by decide +kernel
theorem sr0_293 : (am_sr 0 293).map (fun q => q.2.1) = some 24 := by decide +kernel
theorem m0_295 : am_mlk 0 295 0 31 = true := by decide +kernel
theorem na31 : am_na 31 = 1 := by decide +kernel
theorem nl31 : am_nL 31 = 3 := by decide +kernel
theorem pd31 : ∀ a0 a1 : AV, am_pad 31 [a0, a1] = [a0, a1, aU] := by intros; unfold am_pad; rw [nl31]; rfl
theorem ln31 : 2 ≤ am_nL 31 := by rw [nl31]; decide
theorem o264 : am_oc 264 = 9 := by decide +kernel
theorem m9_244 : am_mlk 9 244 0 199 = true := by decide +kernel
theorem na199 : am_na 199 = 1 := by decide +kernel
theorem nl199 : am_nL 199 = 2 := by decide +kernel
theorem pd199 : ∀ a0 a1 : AV, am_pad 199 [a0, a1] = [a0, a1] := by intros; unfold am_pad; rw [nl199]; rfl
theorem ln199 : 2 ≤ am_nL 199 := by rw [nl199]; decide
theorem o199 : am_oc 199 = 9 := by decide +kernel
theorem rt199 : am_rt 199 = some .boolean := by decide +kernel
theorem pi264_344 : am_pfi 264 9 344 9 35 = true := by decide +kernel
theorem rt264 : am_rt 264 = some .int := by decide +kernel
theorem o261 : am_oc 261 = 9 := by decide +kernel
theorem pi261_344 : am_pfi 261 9 344 9 35 = true := by decide +kernel
theorem rt261 : am_rt 261 = some .int := by decide +kernel
theorem t141 {g : AG} {M : AM} {Y P A V T K H X : Nat} {s q : Int → Int} {b x1 : Int} (hSY : ShYard g Y P A V T K H X) (hSA : ShState g A) (hSX : ShText g X) (hS24 : ShStr g 24 5) (hRA : RepS M A s) (hV : Val b q s) (hQ : ValQ q) (hG : ∀ i : Int, 0 ≤ i → i < 5 → M 25 i = txg i ∧ 0 ≤ txg i ∧ txg i < 128) (hx1 : 0 ≤ x1 ∧ x1 < s 4) (hXA : X + 2 ≤ A ∨ A + 24 ≤ X) (hX40 : 40 ≤ X) (hYd : M Y 6 = 1) :
    Ok 5 141 0 [aR Y, aI x1] [] g M (Rt (some (aI (textO s x1).1)) g (fun M9 => RepT M9 X (textO s x1) ∧ ∀ c, c ≠ X ∧ c ≠ X + 1 → M9 c = M c)) := by
  have ys3 : 0 ≤ s 3 ∧ s 3 ≤ 80 := V_3 hV
  have ys4 : 0 ≤ s 4 ∧ s 4 ≤ 16 := V_4 hV
  have yq0 : 0 ≤ q 0 ∧ q 0 ≤ 4 := Q_0 hQ
  have yq1 : 0 ≤ q 1 ∧ q 1 ≤ 6 := Q_1 hQ
  refine ok_aloadn (pc' := 1) i141_0 rfl rfl <| ok_cc i141_1 rfl (cl_v o141 m0_132 na99 rfl rfl (bt rfl) (bt rfl) rfl (by rw [ShYard_k0 hSY, o99])) ln99 (pd99 (aR Y)) <| ok_aloadn (pc' := 1) i99_0 rfl rfl <| ok_getfi (v := 1) (pc' := 4) i99_1 o99 gi0_268 (ShYard_k0 hSY) hYd rfl <| ok_kz1 (pc1 := 18) (pc2 := 7) i99_4 (by decide) rfl rfl <| ok_vret i99_18 rt99 <| kt_0 (pc' := 4) rfl <| ok_aloadn (pc' := 5) i141_4 rfl rfl <| ?_
  refine ok_iloadn (pc' := 6) i141_5 rfl rfl <| ok_cc i141_6 rfl (cl_v o141 m0_180 na106 rfl rfl (bt rfl) (bt rfl) rfl (by rw [ShYard_k0 hSY, o106])) ln106 (pd106 (aR Y) (aI x1)) <| ok_iloadn (pc' := 1) i106_0 rfl rfl <| ?_
  refine ok_zlt (pc1 := 15) (pc2 := 4) i106_1 (by omega) rfl rfl (fun h9 => by exfalso; omega) (fun h1 => ?_)
  refine ok_iloadn (pc' := 5) i106_4 rfl rfl <| ok_aloadn (pc' := 6) i106_5 rfl rfl <| ok_getfr (r := A) (pc' := 9) i106_6 o106 gr0_39 (ShYard_k0 hSY) (ShYard_r8 hSY) rfl <| ok_getfi (v := (s 4)) (pc' := 12) i106_9 o106 gi0_138 (ShState_k0 hSA) (RepS_f4 hRA) rfl <| ?_
  refine ok_clt (pc1 := 26) (pc2 := 15) i106_12 (by omega) rfl rfl (fun h2 => ?_) (fun h9 => by exfalso; omega)
  refine ok_vret i106_26 rt106 <| kt_0 (pc' := 9) rfl <| ok_aloadn (pc' := 10) i141_9 rfl rfl <| ok_getfr (r := X) (pc' := 13) i141_10 o141 gr0_86 (ShYard_k0 hSY) (ShYard_r15 hSY) rfl <| ok_iconst (pc' := 14) i141_13 rfl <| ok_putfi (pc' := 17) i141_14 o141 pi141_280 (ShText_k0 hSX) rfl <| ok_aloadn (pc' := 18) i141_17 rfl rfl <| ok_getfr (r := X) (pc' := 21) i141_18 o141 gr0_86 (ShYard_k0 hSY) (ShYard_r15 hSY) rfl <| ?_
  refine ok_aloadn (pc' := 22) i141_21 rfl rfl <| ok_getfr (r := A) (pc' := 25) i141_22 o141 gr0_39 (ShYard_k0 hSY) (ShYard_r8 hSY) rfl <| ok_getfr (r := (A + 8)) (pc' := 28) i141_25 o141 gr0_183 (ShState_k0 hSA) (ShState_r5 hSA) rfl <| ok_iconst (pc' := 29) i141_28 rfl <| ok_aaload (r := (A + 9)) (pc' := 30) i141_29 (ShState_k8 hSA) (by decide) (ShState_l8 hSA) (by decide) (ShState_e8_0 hSA) rfl <| ok_iloadn (pc' := 31) i141_30 rfl rfl <| ?_
  have z1 : 1 ≤ s (414 + (8 * x1)) ∧ s (414 + (8 * x1)) ≤ 200 := V_o0 hV (i := x1) (by omega) (by omega)
  refine ok_iaload (v := (s (414 + (8 * x1)))) (pc' := 32) i141_31 (ShState_k9 hSA) (by decide) (ShState_l9 hSA) (by omega) (rd_na (by omega) (RepS_9 hRA (by omega) (by omega))) rfl <| ?_
  obtain ⟨M8, hM8⟩ : ∃ u9 : AM, u9 = (up2 M X 1 0) := ⟨_, rfl⟩
  show Ok _ _ _ _ _ _ (up2 M X 1 0) _
  rw [← hM8]
  have hT8 : RepT M8 X t00 := ⟨by rw [hM8]; exact rd_eq, by decide, fun i h8 h9 => by have : i < 0 := h9; omega⟩
  have hN8 : ∀ c, c ≠ X ∧ c ≠ X + 1 → M8 c = M c := fun c hc => by rw [hM8, up2_na hc.1]
  have hR8 : RepS M8 A s := RepS.fr hRA (fun a h1 h2 => hN8 a (by omega))
  have z2 : t00.1 = 0 := rfl
  refine ok_cn0 (pc' := 35) (d0 := 1) i141_32 rfl (cl_v o141 m0_290 na30 rfl rfl (bt rfl) (bt rfl) rfl (by rw [ShText_k0 hSX, o30])) ln30 (pd30 (aR X) (aI (s (414 + (8 * x1))))) (by omega) (t30 (x1 := (s (414 + (8 * x1)))) hSX hT8 (by omega) (by omega)) rfl (fun M3 p4 => ?_)
  obtain ⟨tt5, htt5⟩ : ∃ u9 : Tx, u9 = sayN t00 (s (414 + (8 * x1))) := ⟨_, rfl⟩
  rw [← htt5] at p4
  have z3 : t00.1 + 1 ≤ tt5.1 ∧ tt5.1 ≤ t00.1 + 3 := by rw [htt5]; exact sayN_1
  have hFM3A : RepS M3 A s := RepS.fr hR8 (fun a h1 h2 => p4.2 a (by omega))
  refine ok_aloadn (pc' := 36) i141_35 rfl rfl <| ok_getfr (r := X) (pc' := 39) i141_36 o141 gr0_86 (ShYard_k0 hSY) (ShYard_r15 hSY) rfl <| ok_bipush (v := 120) (pc' := 41) i141_39 rfl rfl <| ?_
  refine ok_cn0 (pc' := 44) (d0 := 0) i141_41 rfl (cl_v o141 m0_286 na29 rfl rfl (bt rfl) (bt rfl) rfl (by rw [ShText_k0 hSX, o29])) ln29 (pd29 (aR X) (aI 120)) (by omega) (t29 (x1 := 120) hSX p4.1 (by omega) (by omega)) rfl (fun M6 p7 => ?_)
  obtain ⟨tt8, htt8⟩ : ∃ u9 : Tx, u9 = say tt5 120 := ⟨_, rfl⟩
  rw [← htt8] at p7
  have z4 : tt8.1 = tt5.1 + 1 := by rw [htt8]; rfl
  have hFM6A : RepS M6 A s := RepS.fr hFM3A (fun a h1 h2 => p7.2 a (by omega))
  refine ok_aloadn (pc' := 45) i141_44 rfl rfl <| ok_getfr (r := X) (pc' := 48) i141_45 o141 gr0_86 (ShYard_k0 hSY) (ShYard_r15 hSY) rfl <| ok_aloadn (pc' := 49) i141_48 rfl rfl <| ok_getfr (r := A) (pc' := 52) i141_49 o141 gr0_39 (ShYard_k0 hSY) (ShYard_r8 hSY) rfl <| ok_getfr (r := (A + 8)) (pc' := 55) i141_52 o141 gr0_183 (ShState_k0 hSA) (ShState_r5 hSA) rfl <| ok_iconst (pc' := 56) i141_55 rfl <| ok_aaload (r := (A + 10)) (pc' := 57) i141_56 (ShState_k8 hSA) (by decide) (ShState_l8 hSA) (by decide) (ShState_e8_1 hSA) rfl <| ok_iloadn (pc' := 58) i141_57 rfl rfl <| ?_
  have z5 : 1 ≤ s ((414 + (8 * x1)) + 1) ∧ s ((414 + (8 * x1)) + 1) ≤ 9 := V_o1 hV (i := x1) (by omega) (by omega)
  refine ok_iaload (v := (s ((414 + (8 * x1)) + 1))) (pc' := 59) i141_58 (ShState_k10 hSA) (by decide) (ShState_l10 hSA) (by omega) (RepS_10 hFM6A (by omega) (by omega)) rfl <| ?_
  refine ok_cn0 (pc' := 62) (d0 := 1) i141_59 rfl (cl_v o141 m0_290 na30 rfl rfl (bt rfl) (bt rfl) rfl (by rw [ShText_k0 hSX, o30])) ln30 (pd30 (aR X) (aI (s ((414 + (8 * x1)) + 1)))) (by omega) (t30 (x1 := (s ((414 + (8 * x1)) + 1))) hSX p7.1 (by omega) (by omega)) rfl (fun M9 p10 => ?_)
  obtain ⟨tt11, htt11⟩ : ∃ u9 : Tx, u9 = sayN tt8 (s ((414 + (8 * x1)) + 1)) := ⟨_, rfl⟩
  rw [← htt11] at p10
  have z6 : tt8.1 + 1 ≤ tt11.1 ∧ tt11.1 ≤ tt8.1 + 3 := by rw [htt11]; exact sayN_1
  have z7 : tt11.1 ≤ tt8.1 + 2 := by rw [htt11]; exact sayN_s (by omega)
  have hFM9A : RepS M9 A s := RepS.fr hFM6A (fun a h1 h2 => p10.2 a (by omega))
  refine ok_aloadn (pc' := 63) i141_62 rfl rfl <| ok_getfr (r := X) (pc' := 66) i141_63 o141 gr0_86 (ShYard_k0 hSY) (ShYard_r15 hSY) rfl <| ok_bipush (v := 32) (pc' := 68) i141_66 rfl rfl <| ?_
  refine ok_cn0 (pc' := 71) (d0 := 0) i141_68 rfl (cl_v o141 m0_286 na29 rfl rfl (bt rfl) (bt rfl) rfl (by rw [ShText_k0 hSX, o29])) ln29 (pd29 (aR X) (aI 32)) (by omega) (t29 (x1 := 32) hSX p10.1 (by omega) (by omega)) rfl (fun M12 p13 => ?_)
  obtain ⟨tt14, htt14⟩ : ∃ u9 : Tx, u9 = say tt11 32 := ⟨_, rfl⟩
  rw [← htt14] at p13
  have z8 : tt14.1 = tt11.1 + 1 := by rw [htt14]; rfl
  have hFM12A : RepS M12 A s := RepS.fr hFM9A (fun a h1 h2 => p13.2 a (by omega))
  refine ok_aloadn (pc' := 72) i141_71 rfl rfl <| ok_getfr (r := X) (pc' := 75) i141_72 o141 gr0_86 (ShYard_k0 hSY) (ShYard_r15 hSY) rfl <| ok_aloadn (pc' := 76) i141_75 rfl rfl <| ok_getfr (r := A) (pc' := 79) i141_76 o141 gr0_39 (ShYard_k0 hSY) (ShYard_r8 hSY) rfl <| ok_getfr (r := (A + 8)) (pc' := 82) i141_79 o141 gr0_183 (ShState_k0 hSA) (ShState_r5 hSA) rfl <| ok_iconst (pc' := 83) i141_82 rfl <| ok_aaload (r := (A + 14)) (pc' := 84) i141_83 (ShState_k8 hSA) (by decide) (ShState_l8 hSA) (by decide) (ShState_e8_5 hSA) rfl <| ok_iloadn (pc' := 85) i141_84 rfl rfl <| ?_
  have z9 : 0 ≤ s ((414 + (8 * x1)) + 5) ∧ s ((414 + (8 * x1)) + 5) ≤ 9 := V_o5 hV (i := x1) (by omega) (by omega)
  refine ok_iaload (v := (s ((414 + (8 * x1)) + 5))) (pc' := 86) i141_85 (ShState_k14 hSA) (by decide) (ShState_l14 hSA) (by omega) (RepS_14 hFM12A (by omega) (by omega)) rfl <| ?_
  refine ok_cn0 (pc' := 89) (d0 := 1) i141_86 rfl (cl_v o141 m0_290 na30 rfl rfl (bt rfl) (bt rfl) rfl (by rw [ShText_k0 hSX, o30])) ln30 (pd30 (aR X) (aI (s ((414 + (8 * x1)) + 5)))) (by omega) (t30 (x1 := (s ((414 + (8 * x1)) + 5))) hSX p13.1 (by omega) (by omega)) rfl (fun M15 p16 => ?_)
  obtain ⟨tt17, htt17⟩ : ∃ u9 : Tx, u9 = sayN tt14 (s ((414 + (8 * x1)) + 5)) := ⟨_, rfl⟩
  rw [← htt17] at p16
  have z10 : tt14.1 + 1 ≤ tt17.1 ∧ tt17.1 ≤ tt14.1 + 3 := by rw [htt17]; exact sayN_1
  have z11 : tt17.1 ≤ tt14.1 + 2 := by rw [htt17]; exact sayN_s (by omega)
  have hFM15A : RepS M15 A s := RepS.fr hFM12A (fun a h1 h2 => p16.2 a (by omega))
  refine ok_aloadn (pc' := 90) i141_89 rfl rfl <| ok_getfr (r := X) (pc' := 93) i141_90 o141 gr0_86 (ShYard_k0 hSY) (ShYard_r15 hSY) rfl <| ok_bipush (v := 43) (pc' := 95) i141_93 rfl rfl <| ?_
  refine ok_cn0 (pc' := 98) (d0 := 0) i141_95 rfl (cl_v o141 m0_286 na29 rfl rfl (bt rfl) (bt rfl) rfl (by rw [ShText_k0 hSX, o29])) ln29 (pd29 (aR X) (aI 43)) (by omega) (t29 (x1 := 43) hSX p16.1 (by omega) (by omega)) rfl (fun M18 p19 => ?_)
  obtain ⟨tt20, htt20⟩ : ∃ u9 : Tx, u9 = say tt17 43 := ⟨_, rfl⟩
  rw [← htt20] at p19
  have z12 : tt20.1 = tt17.1 + 1 := by rw [htt20]; rfl
  have hFM18A : RepS M18 A s := RepS.fr hFM15A (fun a h1 h2 => p19.2 a (by omega))
  refine ok_aloadn (pc' := 99) i141_98 rfl rfl <| ok_getfr (r := X) (pc' := 102) i141_99 o141 gr0_86 (ShYard_k0 hSY) (ShYard_r15 hSY) rfl <| ok_aloadn (pc' := 103) i141_102 rfl rfl <| ok_getfr (r := A) (pc' := 106) i141_103 o141 gr0_39 (ShYard_k0 hSY) (ShYard_r8 hSY) rfl <| ok_getfr (r := (A + 8)) (pc' := 109) i141_106 o141 gr0_183 (ShState_k0 hSA) (ShState_r5 hSA) rfl <| ok_bipush (v := 6) (pc' := 111) i141_109 rfl rfl <| ok_aaload (r := (A + 15)) (pc' := 112) i141_111 (ShState_k8 hSA) (by decide) (ShState_l8 hSA) (by decide) (ShState_e8_6 hSA) rfl <| ok_iloadn (pc' := 113) i141_112 rfl rfl <| ?_
  have z13 : 0 ≤ s ((414 + (8 * x1)) + 6) ∧ s ((414 + (8 * x1)) + 6) ≤ 9 := V_o6 hV (i := x1) (by omega) (by omega)
  refine ok_iaload (v := (s ((414 + (8 * x1)) + 6))) (pc' := 114) i141_113 (ShState_k15 hSA) (by decide) (ShState_l15 hSA) (by omega) (RepS_15 hFM18A (by omega) (by omega)) rfl <| ?_
  refine ok_cn0 (pc' := 117) (d0 := 1) i141_114 rfl (cl_v o141 m0_290 na30 rfl rfl (bt rfl) (bt rfl) rfl (by rw [ShText_k0 hSX, o30])) ln30 (pd30 (aR X) (aI (s ((414 + (8 * x1)) + 6)))) (by omega) (t30 (x1 := (s ((414 + (8 * x1)) + 6))) hSX p19.1 (by omega) (by omega)) rfl (fun M21 p22 => ?_)
  obtain ⟨tt23, htt23⟩ : ∃ u9 : Tx, u9 = sayN tt20 (s ((414 + (8 * x1)) + 6)) := ⟨_, rfl⟩
  rw [← htt23] at p22
  have z14 : tt20.1 + 1 ≤ tt23.1 ∧ tt23.1 ≤ tt20.1 + 3 := by rw [htt23]; exact sayN_1
  have z15 : tt23.1 ≤ tt20.1 + 2 := by rw [htt23]; exact sayN_s (by omega)
  have hFM21A : RepS M21 A s := RepS.fr hFM18A (fun a h1 h2 => p22.2 a (by omega))
  refine ok_aloadn (pc' := 118) i141_117 rfl rfl <| ok_getfr (r := X) (pc' := 121) i141_118 o141 gr0_86 (ShYard_k0 hSY) (ShYard_r15 hSY) rfl <| ok_bipush (v := 47) (pc' := 123) i141_121 rfl rfl <| ?_
  refine ok_cn0 (pc' := 126) (d0 := 0) i141_123 rfl (cl_v o141 m0_286 na29 rfl rfl (bt rfl) (bt rfl) rfl (by rw [ShText_k0 hSX, o29])) ln29 (pd29 (aR X) (aI 47)) (by omega) (t29 (x1 := 47) hSX p22.1 (by omega) (by omega)) rfl (fun M24 p25 => ?_)
  obtain ⟨tt26, htt26⟩ : ∃ u9 : Tx, u9 = say tt23 47 := ⟨_, rfl⟩
  rw [← htt26] at p25
  have z16 : tt26.1 = tt23.1 + 1 := by rw [htt26]; rfl
  have hFM24A : RepS M24 A s := RepS.fr hFM21A (fun a h1 h2 => p25.2 a (by omega))
  refine ok_aloadn (pc' := 127) i141_126 rfl rfl <| ok_getfr (r := X) (pc' := 130) i141_127 o141 gr0_86 (ShYard_k0 hSY) (ShYard_r15 hSY) rfl <| ok_aloadn (pc' := 131) i141_130 rfl rfl <| ok_getfr (r := A) (pc' := 134) i141_131 o141 gr0_39 (ShYard_k0 hSY) (ShYard_r8 hSY) rfl <| ok_getfr (r := (A + 8)) (pc' := 137) i141_134 o141 gr0_183 (ShState_k0 hSA) (ShState_r5 hSA) rfl <| ok_iconst (pc' := 138) i141_137 rfl <| ok_aaload (r := (A + 13)) (pc' := 139) i141_138 (ShState_k8 hSA) (by decide) (ShState_l8 hSA) (by decide) (ShState_e8_4 hSA) rfl <| ok_iloadn (pc' := 140) i141_139 rfl rfl <| ?_
  have z17 : 0 ≤ s ((414 + (8 * x1)) + 4) ∧ s ((414 + (8 * x1)) + 4) ≤ 9 := V_o4 hV (i := x1) (by omega) (by omega)
  refine ok_iaload (v := (s ((414 + (8 * x1)) + 4))) (pc' := 141) i141_140 (ShState_k13 hSA) (by decide) (ShState_l13 hSA) (by omega) (RepS_13 hFM24A (by omega) (by omega)) rfl <| ?_
  refine ok_cn0 (pc' := 144) (d0 := 1) i141_141 rfl (cl_v o141 m0_290 na30 rfl rfl (bt rfl) (bt rfl) rfl (by rw [ShText_k0 hSX, o30])) ln30 (pd30 (aR X) (aI (s ((414 + (8 * x1)) + 4)))) (by omega) (t30 (x1 := (s ((414 + (8 * x1)) + 4))) hSX p25.1 (by omega) (by omega)) rfl (fun M27 p28 => ?_)
  obtain ⟨tt29, htt29⟩ : ∃ u9 : Tx, u9 = sayN tt26 (s ((414 + (8 * x1)) + 4)) := ⟨_, rfl⟩
  rw [← htt29] at p28
  have z18 : tt26.1 + 1 ≤ tt29.1 ∧ tt29.1 ≤ tt26.1 + 3 := by rw [htt29]; exact sayN_1
  have z19 : tt29.1 ≤ tt26.1 + 2 := by rw [htt29]; exact sayN_s (by omega)
  have hFM27A : RepS M27 A s := RepS.fr hFM24A (fun a h1 h2 => p28.2 a (by omega))
  refine ok_aloadn (pc' := 145) i141_144 rfl rfl <| ok_getfr (r := X) (pc' := 148) i141_145 o141 gr0_86 (ShYard_k0 hSY) (ShYard_r15 hSY) rfl <| ok_bipush (v := 32) (pc' := 150) i141_148 rfl rfl <| ?_
  refine ok_cn0 (pc' := 153) (d0 := 0) i141_150 rfl (cl_v o141 m0_286 na29 rfl rfl (bt rfl) (bt rfl) rfl (by rw [ShText_k0 hSX, o29])) ln29 (pd29 (aR X) (aI 32)) (by omega) (t29 (x1 := 32) hSX p28.1 (by omega) (by omega)) rfl (fun M30 p31 => ?_)
  obtain ⟨tt32, htt32⟩ : ∃ u9 : Tx, u9 = say tt29 32 := ⟨_, rfl⟩
  rw [← htt32] at p31
  have z20 : tt32.1 = tt29.1 + 1 := by rw [htt32]; rfl
  have hFM30A : RepS M30 A s := RepS.fr hFM27A (fun a h1 h2 => p31.2 a (by omega))
  refine ok_aloadn (pc' := 154) i141_153 rfl rfl <| ok_getfr (r := X) (pc' := 157) i141_154 o141 gr0_86 (ShYard_k0 hSY) (ShYard_r15 hSY) rfl <| ok_bipush (v := 100) (pc' := 159) i141_157 rfl rfl <| ?_
  refine ok_cn0 (pc' := 162) (d0 := 0) i141_159 rfl (cl_v o141 m0_286 na29 rfl rfl (bt rfl) (bt rfl) rfl (by rw [ShText_k0 hSX, o29])) ln29 (pd29 (aR X) (aI 100)) (by omega) (t29 (x1 := 100) hSX p31.1 (by omega) (by omega)) rfl (fun M33 p34 => ?_)
  obtain ⟨tt35, htt35⟩ : ∃ u9 : Tx, u9 = say tt32 100 := ⟨_, rfl⟩
  rw [← htt35] at p34
  have z21 : tt35.1 = tt32.1 + 1 := by rw [htt35]; rfl
  have hFM33A : RepS M33 A s := RepS.fr hFM30A (fun a h1 h2 => p34.2 a (by omega))
  refine ok_aloadn (pc' := 163) i141_162 rfl rfl <| ok_getfr (r := X) (pc' := 166) i141_163 o141 gr0_86 (ShYard_k0 hSY) (ShYard_r15 hSY) rfl <| ok_aloadn (pc' := 167) i141_166 rfl rfl <| ok_getfr (r := A) (pc' := 170) i141_167 o141 gr0_39 (ShYard_k0 hSY) (ShYard_r8 hSY) rfl <| ok_getfr (r := (A + 8)) (pc' := 173) i141_170 o141 gr0_183 (ShState_k0 hSA) (ShState_r5 hSA) rfl <| ok_iconst (pc' := 174) i141_173 rfl <| ok_aaload (r := (A + 12)) (pc' := 175) i141_174 (ShState_k8 hSA) (by decide) (ShState_l8 hSA) (by decide) (ShState_e8_3 hSA) rfl <| ok_iloadn (pc' := 176) i141_175 rfl rfl <| ?_
  have z22 : 0 ≤ s ((414 + (8 * x1)) + 3) ∧ s ((414 + (8 * x1)) + 3) ≤ 999 := V_o3 hV (i := x1) (by omega) (by omega)
  refine ok_iaload (v := (s ((414 + (8 * x1)) + 3))) (pc' := 177) i141_176 (ShState_k12 hSA) (by decide) (ShState_l12 hSA) (by omega) (RepS_12 hFM33A (by omega) (by omega)) rfl <| ?_
  refine ok_cn0 (pc' := 180) (d0 := 1) i141_177 rfl (cl_v o141 m0_290 na30 rfl rfl (bt rfl) (bt rfl) rfl (by rw [ShText_k0 hSX, o30])) ln30 (pd30 (aR X) (aI (s ((414 + (8 * x1)) + 3)))) (by omega) (t30 (x1 := (s ((414 + (8 * x1)) + 3))) hSX p34.1 (by omega) (by omega)) rfl (fun M36 p37 => ?_)
  obtain ⟨tt38, htt38⟩ : ∃ u9 : Tx, u9 = sayN tt35 (s ((414 + (8 * x1)) + 3)) := ⟨_, rfl⟩
  rw [← htt38] at p37
  have z23 : tt35.1 + 1 ≤ tt38.1 ∧ tt38.1 ≤ tt35.1 + 3 := by rw [htt38]; exact sayN_1
  have hFM36A : RepS M36 A s := RepS.fr hFM33A (fun a h1 h2 => p37.2 a (by omega))
  refine ok_aloadn (pc' := 181) i141_180 rfl rfl <| ok_getfr (r := A) (pc' := 184) i141_181 o141 gr0_39 (ShYard_k0 hSY) (ShYard_r8 hSY) rfl <| ok_getfr (r := (A + 8)) (pc' := 187) i141_184 o141 gr0_183 (ShState_k0 hSA) (ShState_r5 hSA) rfl <| ok_bipush (v := 7) (pc' := 189) i141_187 rfl rfl <| ok_aaload (r := (A + 16)) (pc' := 190) i141_189 (ShState_k8 hSA) (by decide) (ShState_l8 hSA) (by decide) (ShState_e8_7 hSA) rfl <| ok_iloadn (pc' := 191) i141_190 rfl rfl <| ?_
  have z24 : 0 ≤ s ((414 + (8 * x1)) + 7) ∧ s ((414 + (8 * x1)) + 7) ≤ 1 := V_o7 hV (i := x1) (by omega) (by omega)
  refine ok_iaload (v := (s ((414 + (8 * x1)) + 7))) (pc' := 192) i141_191 (ShState_k16 hSA) (by decide) (ShState_l16 hSA) (by omega) (RepS_16 hFM36A (by omega) (by omega)) rfl <| ok_iconst (pc' := 193) i141_192 rfl <| ?_
  refine ok_cne (pc1 := 206) (pc2 := 196) i141_193 (by omega) rfl rfl (fun h39 => ?_) (fun h39 => ?_)
  · refine ok_aloadn (pc' := 207) i141_206 rfl rfl <| ok_getfr (r := X) (pc' := 210) i141_207 o141 gr0_86 (ShYard_k0 hSY) (ShYard_r15 hSY) rfl <| ok_getfi (v := tt38.1) (pc' := 213) i141_210 o141 gi0_280 (ShText_k0 hSX) p37.1.1 rfl <| ok_ireti i141_213 rt141 <| ?_
    have e : textO s x1 = tt38 := by rw [htt38, htt35, htt32, htt29, htt26, htt23, htt20, htt17, htt14, htt11, htt8, htt5]; unfold textO; rw [if_neg (by omega)]; rfl
    exact ⟨by rw [e], rfl, by rw [e]; exact p37.1, fun c hc => ((((((((((((p37.2 c hc).trans (p34.2 c hc)).trans (p31.2 c hc)).trans (p28.2 c hc)).trans (p25.2 c hc)).trans (p22.2 c hc)).trans (p19.2 c hc)).trans (p16.2 c hc)).trans (p13.2 c hc)).trans (p10.2 c hc)).trans (p7.2 c hc)).trans (p4.2 c hc)).trans (hN8 c hc)⟩
  · refine ok_aloadn (pc' := 197) i141_196 rfl rfl <| ok_getfr (r := X) (pc' := 200) i141_197 o141 gr0_86 (ShYard_k0 hSY) (ShYard_r15 hSY) rfl <| ok_ldws (pc' := 203) i141_200 o141 sr0_293 rfl <| ?_
    refine ok_cn0 (pc' := 206) (d0 := 4) i141_203 rfl (cl_v o141 m0_295 na31 rfl rfl (bt rfl) (bt rfl) rfl (by rw [ShText_k0 hSX, o31])) ln31 (pd31 (aR X) (aR 24)) (by omega) (t31 (n := 5) (tx := txg) hSX hS24 (by decide) (fun i h8 h9 => by rw [show M36 25 = M 25 from ((((((((((((p37.2 25 (by omega)).trans (p34.2 25 (by omega))).trans (p31.2 25 (by omega))).trans (p28.2 25 (by omega))).trans (p25.2 25 (by omega))).trans (p22.2 25 (by omega))).trans (p19.2 25 (by omega))).trans (p16.2 25 (by omega))).trans (p13.2 25 (by omega))).trans (p10.2 25 (by omega))).trans (p7.2 25 (by omega))).trans (p4.2 25 (by omega))).trans (hN8 25 (by omega))]; exact hG i h8 h9) (by omega) p37.1 (by omega)) rfl (fun M40 p41 => ?_)
    rw [sayW_gone] at p41
    obtain ⟨tt42, htt42⟩ : ∃ u9 : Tx, u9 = goneX tt38 := ⟨_, rfl⟩
    rw [← htt42] at p41
    have z25 : tt42.1 = tt38.1 + 5 := by rw [htt42]; exact goneX_1
    refine ok_aloadn (pc' := 207) i141_206 rfl rfl <| ok_getfr (r := X) (pc' := 210) i141_207 o141 gr0_86 (ShYard_k0 hSY) (ShYard_r15 hSY) rfl <| ok_getfi (v := tt42.1) (pc' := 213) i141_210 o141 gi0_280 (ShText_k0 hSX) p41.1.1 rfl <| ok_ireti i141_213 rt141 <| ?_
    have e : textO s x1 = tt42 := by rw [htt42, htt38, htt35, htt32, htt29, htt26, htt23, htt20, htt17, htt14, htt11, htt8, htt5]; unfold textO; rw [if_pos (by omega)]; rfl
    exact ⟨by rw [e], rfl, by rw [e]; exact p41.1, fun c hc => (((((((((((((p41.2 c hc).trans (p37.2 c hc)).trans (p34.2 c hc)).trans (p31.2 c hc)).trans (p28.2 c hc)).trans (p25.2 c hc)).trans (p22.2 c hc)).trans (p19.2 c hc)).trans (p16.2 c hc)).trans (p13.2 c hc)).trans (p10.2 c hc)).trans (p7.2 c hc)).trans (p4.2 c hc)).trans (hN8 c hc)⟩
theorem t264 {g : AG} {M : AM} {O : Nat} {s q : Int → Int} {b : Int} {x1 : Int} (hSO : ShModel g O) (hRO : RepO M O q s) (hV : Val b q s) (hQ : ValQ q) (hx1 : 0 ≤ x1 ∧ x1 < s 4) (hYd : M O 1 = 1) :
    Ok 5 264 0 [aR O, aI x1] [] g M (Rt (some (aI (textO s x1).1)) g (fun M9 => RepU M9 O (textO s x1) ∧ (∀ c, c ≠ O ∧ c ≠ O + 15 → M9 c = M c) ∧ (∀ y : Int, y ≠ 35 ∧ y ≠ 0 → M9 O y = M O y) ∧ M9 O 0 = 0)) := by
  have ys3 : 0 ≤ s 3 ∧ s 3 ≤ 80 := V_3 hV
  have ys4 : 0 ≤ s 4 ∧ s 4 ≤ 16 := V_4 hV
  have yq0 : 0 ≤ q 0 ∧ q 0 ≤ 4 := Q_0 hQ
  have yq1 : 0 ≤ q 1 ∧ q 1 ≤ 6 := Q_1 hQ
  refine ok_aloadn (pc' := 1) i264_0 rfl rfl <| ok_iloadn (pc' := 2) i264_1 rfl rfl <| ok_cc i264_2 rfl (cl_v o264 m9_244 na199 rfl rfl (bt rfl) (bt rfl) rfl (by rw [ShModel_k0 hSO, o199])) ln199 (pd199 (aR O) (aI x1)) <| ok_aloadn (pc' := 1) i199_0 rfl rfl <| ok_cc i199_1 rfl (cl_v o199 m9_216 na188 rfl rfl (bt rfl) (bt rfl) rfl (by rw [ShModel_k0 hSO, o188])) ln188 (pd188 (aR O)) <| ok_aloadn (pc' := 1) i188_0 rfl rfl <| ok_iconst (pc' := 2) i188_1 rfl <| ok_putfi (pc' := 5) i188_2 o188 pi188_63 (ShModel_k0 hSO) rfl <| ?_
  refine ok_aloadn (pc' := 6) i188_5 rfl rfl <| ok_aloadn (pc' := 7) i188_6 rfl rfl <| ok_getfi (v := 1) (pc' := 10) i188_7 o188 gi9_66 (ShModel_k0 hSO) (rd_ni (by decide) hYd) rfl <| ok_kz1 (pc1 := 17) (pc2 := 13) i188_10 (by decide) rfl rfl <| ok_iconst (pc' := 18) i188_17 rfl <| ok_iconst (pc' := 19) i188_18 rfl <| ok_cc i188_19 rfl (cl_v o188 m9_70 na165 rfl rfl (bt rfl) (bt rfl) rfl (by rw [ShModel_k0 hSO, o165])) ln165 (pd165 (aR O) (aI 0) (aI 1)) <| ok_aloadn (pc' := 1) i165_0 rfl rfl <| ?_
  refine ok_getfi (v := 0) (pc' := 4) i165_1 o165 gi9_63 (ShModel_k0 hSO) rd_eq rfl <| ok_kz0 (pc1 := 16) (pc2 := 7) i165_4 (by decide) rfl rfl <| ok_iloadn (pc' := 8) i165_7 rfl rfl <| ok_kz1 (pc1 := 16) (pc2 := 11) i165_8 (by decide) rfl rfl <| ok_aloadn (pc' := 17) i165_16 rfl rfl <| ok_getfi (v := 0) (pc' := 20) i165_17 o165 gi9_63 (ShModel_k0 hSO) rd_eq rfl <| ok_kz1 (pc1 := 27) (pc2 := 23) i165_20 (by decide) rfl rfl <| ok_iconst (pc' := 28) i165_27 rfl <| ?_
  refine ok_iretz i165_28 rt165 (by decide) <| kt_v (pc' := 22) rfl <| ok_iretz i188_22 rt188 (by decide) <| kt_v (pc' := 4) rfl <| ok_kz0 (pc1 := 36) (pc2 := 7) i199_4 (by decide) rfl rfl <| ok_aloadn (pc' := 8) i199_7 rfl rfl <| ok_iloadn (pc' := 9) i199_8 rfl rfl <| ok_iconst (pc' := 10) i199_9 rfl <| ?_
  refine ok_aloadn (pc' := 11) i199_10 rfl rfl <| ok_getfr (r := (O + 5)) (pc' := 14) i199_11 o199 gr9_22 (ShModel_k0 hSO) (ShModel_r8 hSO) rfl <| ok_iconst (pc' := 15) i199_14 rfl <| ok_iaload (v := (s 4)) (pc' := 16) i199_15 (ShModel_k5 hSO) (by decide) (ShModel_l5 hSO) (by decide) (rd_na (by omega) (RepO_s hRO)) rfl <| ok_iconst (pc' := 17) i199_16 rfl <| ok_isub (v := ((s 4) - 1)) (pc' := 18) i199_17 rfl rfl <| ok_cc i199_18 rfl (cl_s o199 m9_140 na164 rfl rfl (bt rfl) (bt rfl) rfl) ln164 (pd164 (aI x1) (aI 0) (aI ((s 4) - 1))) <| ok_iloadn (pc' := 1) i164_0 rfl rfl <| ?_
  refine ok_iloadn (pc' := 2) i164_1 rfl rfl <| ?_
  refine ok_clt (pc1 := 14) (pc2 := 5) i164_2 (by omega) rfl rfl (fun h9 => by exfalso; omega) (fun h1 => ?_)
  refine ok_iloadn (pc' := 6) i164_5 rfl rfl <| ok_iloadn (pc' := 7) i164_6 rfl rfl <| ?_
  refine ok_cgt (pc1 := 14) (pc2 := 10) i164_7 (by omega) rfl rfl (fun h9 => by exfalso; omega) (fun h2 => ?_)
  refine ok_iconst (pc' := 11) i164_10 rfl <| ok_goto (pc' := 15) i164_11 rfl <| ok_iretz i164_15 rt164 (by decide) <| kt_v (pc' := 21) rfl <| ok_kz1 (pc1 := 28) (pc2 := 24) i199_21 (by decide) rfl rfl <| ok_iconst (pc' := 29) i199_28 rfl <| ok_iconst (pc' := 30) i199_29 rfl <| ok_cc i199_30 rfl (cl_v o199 m9_70 na165 rfl rfl (bt rfl) (bt rfl) rfl (by rw [ShModel_k0 hSO, o165])) ln165 (pd165 (aR O) (aI 0) (aI 2)) <| ?_
  refine ok_aloadn (pc' := 1) i165_0 rfl rfl <| ok_getfi (v := 0) (pc' := 4) i165_1 o165 gi9_63 (ShModel_k0 hSO) rd_eq rfl <| ok_kz0 (pc1 := 16) (pc2 := 7) i165_4 (by decide) rfl rfl <| ok_iloadn (pc' := 8) i165_7 rfl rfl <| ok_kz1 (pc1 := 16) (pc2 := 11) i165_8 (by decide) rfl rfl <| ok_aloadn (pc' := 17) i165_16 rfl rfl <| ok_getfi (v := 0) (pc' := 20) i165_17 o165 gi9_63 (ShModel_k0 hSO) rd_eq rfl <| ok_kz1 (pc1 := 27) (pc2 := 23) i165_20 (by decide) rfl rfl <| ?_
  refine ok_iconst (pc' := 28) i165_27 rfl <| ok_iretz i165_28 rt165 (by decide) <| kt_v (pc' := 33) rfl <| ok_kz1 (pc1 := 40) (pc2 := 36) i199_33 (by decide) rfl rfl <| ok_iconst (pc' := 41) i199_40 rfl <| ok_iretz i199_41 rt199 (by decide) <| kt_v (pc' := 5) rfl <| ok_kz1 (pc1 := 10) (pc2 := 8) i264_5 (by decide) rfl rfl <| ?_
  refine ok_aloadn (pc' := 11) i264_10 rfl rfl <| ok_iconst (pc' := 12) i264_11 rfl <| ok_putfi (pc' := 15) i264_12 o264 pi264_344 (ShModel_k0 hSO) rfl <| ok_aloadn (pc' := 16) i264_15 rfl rfl <| ok_aloadn (pc' := 17) i264_16 rfl rfl <| ok_iloadn (pc' := 18) i264_17 rfl rfl <| ok_iconst (pc' := 19) i264_18 rfl <| ok_cc i264_19 rfl (cl_v o264 m9_226 na191 rfl rfl (bt rfl) (bt rfl) rfl (by rw [ShModel_k0 hSO, o191])) ln191 (pd191 (aR O) (aI x1) (aI 0)) <| ?_
  refine ok_aloadn (pc' := 1) i191_0 rfl rfl <| ok_getfr (r := (O + 5)) (pc' := 4) i191_1 o191 gr9_22 (ShModel_k0 hSO) (ShModel_r8 hSO) rfl <| ok_sipush (v := 414) (pc' := 7) i191_4 rfl rfl <| ok_bipush (v := 8) (pc' := 9) i191_7 rfl rfl <| ok_iloadn (pc' := 10) i191_9 rfl rfl <| ok_imul (v := (8 * x1)) (pc' := 11) i191_10 rfl rfl <| ok_iadd (v := (414 + (8 * x1))) (pc' := 12) i191_11 rfl rfl <| ok_iloadn (pc' := 13) i191_12 rfl rfl <| ?_
  refine ok_iadd (v := (414 + (8 * x1))) (pc' := 14) i191_13 (by omega) rfl <| ?_
  have z1 : 1 ≤ s (414 + (8 * x1)) ∧ s (414 + (8 * x1)) ≤ 200 := V_o0 hV (i := x1) (by omega) (by omega)
  refine ok_iaload (v := (s (414 + (8 * x1)))) (pc' := 15) i191_14 (ShModel_k5 hSO) (by decide) (ShModel_l5 hSO) (by omega) (rd_na (by omega) (rd_na (by omega) (RepO_s hRO))) rfl <| ok_ireti i191_15 rt191 <| kt_v (pc' := 22) rfl <| ?_
  obtain ⟨M8, hM8⟩ : ∃ u9 : AM, u9 = (up2 (up2 M O 0 0) O 35 0) := ⟨_, rfl⟩
  show Ok _ _ _ _ _ _ (up2 (up2 M O 0 0) O 35 0) _
  rw [← hM8]
  have hT8 : RepU M8 O t00 := ⟨by rw [hM8]; exact rd_eq, by decide, fun i h8 h9 => by have : i < 0 := h9; omega⟩
  have hN8 : (∀ c, c ≠ O ∧ c ≠ O + 15 → M8 c = M c) ∧ (∀ y : Int, y ≠ 35 ∧ y ≠ 0 → M8 O y = M O y) ∧ M8 O 0 = 0 := ⟨fun c hc => by rw [hM8, up2_na hc.1, up2_na hc.1], fun y hy => by rw [hM8, up2_rd, if_neg (by omega), up2_rd, if_neg (by omega)], by rw [hM8, up2_rd, if_neg (by omega)]; exact rd_eq⟩
  have hR8 : RepO M8 O q s := RepO.fr hRO ⟨hN8.2.1 2 (by decide), hN8.2.1 3 (by decide)⟩ (fun a h1 h2 => hN8.1 a (by omega))
  have z2 : t00.1 = 0 := rfl
  refine ok_cn0 (pc' := 25) (d0 := 3) i264_22 rfl (cl_v o264 m9_347 na263 rfl rfl (bt rfl) (bt rfl) rfl (by rw [ShModel_k0 hSO, o263])) ln263 (pd263 (aR O) (aI (s (414 + (8 * x1))))) (by omega) (t263 (x1 := (s (414 + (8 * x1)))) hSO hT8 (by omega) (by omega)) rfl (fun M3 p4 => ?_)
  obtain ⟨tt5, htt5⟩ : ∃ u9 : Tx, u9 = sayN t00 (s (414 + (8 * x1))) := ⟨_, rfl⟩
  rw [← htt5] at p4
  have z3 : t00.1 + 1 ≤ tt5.1 ∧ tt5.1 ≤ t00.1 + 3 := by rw [htt5]; exact sayN_1
  have hFM3 : RepO M3 O q s := RepO.fr hR8 ⟨p4.2.2 2 (by decide), p4.2.2 3 (by decide)⟩ (fun a h1 h2 => p4.2.1 a (by omega))
  refine ok_aloadn (pc' := 26) i264_25 rfl rfl <| ok_bipush (v := 120) (pc' := 28) i264_26 rfl rfl <| ?_
  refine ok_cn0 (pc' := 31) (d0 := 0) i264_28 rfl (cl_v o264 m9_350 na262 rfl rfl (bt rfl) (bt rfl) rfl (by rw [ShModel_k0 hSO, o262])) ln262 (pd262 (aR O) (aI 120)) (by omega) (t262 (x1 := 120) hSO p4.1 (by omega)) rfl (fun M6 p7 => ?_)
  obtain ⟨tt8, htt8⟩ : ∃ u9 : Tx, u9 = say tt5 120 := ⟨_, rfl⟩
  rw [← htt8] at p7
  have z4 : tt8.1 = tt5.1 + 1 := by rw [htt8]; rfl
  have hFM6 : RepO M6 O q s := RepO.fr hFM3 ⟨p7.2.2 2 (by decide), p7.2.2 3 (by decide)⟩ (fun a h1 h2 => p7.2.1 a (by omega))
  refine ok_aloadn (pc' := 32) i264_31 rfl rfl <| ok_aloadn (pc' := 33) i264_32 rfl rfl <| ok_iloadn (pc' := 34) i264_33 rfl rfl <| ok_iconst (pc' := 35) i264_34 rfl <| ok_cc i264_35 rfl (cl_v o264 m9_226 na191 rfl rfl (bt rfl) (bt rfl) rfl (by rw [ShModel_k0 hSO, o191])) ln191 (pd191 (aR O) (aI x1) (aI 1)) <| ok_aloadn (pc' := 1) i191_0 rfl rfl <| ok_getfr (r := (O + 5)) (pc' := 4) i191_1 o191 gr9_22 (ShModel_k0 hSO) (ShModel_r8 hSO) rfl <| ok_sipush (v := 414) (pc' := 7) i191_4 rfl rfl <| ?_
  refine ok_bipush (v := 8) (pc' := 9) i191_7 rfl rfl <| ok_iloadn (pc' := 10) i191_9 rfl rfl <| ok_imul (v := (8 * x1)) (pc' := 11) i191_10 rfl rfl <| ok_iadd (v := (414 + (8 * x1))) (pc' := 12) i191_11 rfl rfl <| ok_iloadn (pc' := 13) i191_12 rfl rfl <| ok_iadd (v := ((414 + (8 * x1)) + 1)) (pc' := 14) i191_13 rfl rfl <| ?_
  have z5 : 1 ≤ s ((414 + (8 * x1)) + 1) ∧ s ((414 + (8 * x1)) + 1) ≤ 9 := V_o1 hV (i := x1) (by omega) (by omega)
  refine ok_iaload (v := (s ((414 + (8 * x1)) + 1))) (pc' := 15) i191_14 (ShModel_k5 hSO) (by decide) (ShModel_l5 hSO) (by omega) (RepO_s hFM6) rfl <| ok_ireti i191_15 rt191 <| kt_v (pc' := 38) rfl <| ?_
  refine ok_cn0 (pc' := 41) (d0 := 3) i264_38 rfl (cl_v o264 m9_347 na263 rfl rfl (bt rfl) (bt rfl) rfl (by rw [ShModel_k0 hSO, o263])) ln263 (pd263 (aR O) (aI (s ((414 + (8 * x1)) + 1)))) (by omega) (t263 (x1 := (s ((414 + (8 * x1)) + 1))) hSO p7.1 (by omega) (by omega)) rfl (fun M9 p10 => ?_)
  obtain ⟨tt11, htt11⟩ : ∃ u9 : Tx, u9 = sayN tt8 (s ((414 + (8 * x1)) + 1)) := ⟨_, rfl⟩
  rw [← htt11] at p10
  have z6 : tt8.1 + 1 ≤ tt11.1 ∧ tt11.1 ≤ tt8.1 + 3 := by rw [htt11]; exact sayN_1
  have z7 : tt11.1 ≤ tt8.1 + 2 := by rw [htt11]; exact sayN_s (by omega)
  have hFM9 : RepO M9 O q s := RepO.fr hFM6 ⟨p10.2.2 2 (by decide), p10.2.2 3 (by decide)⟩ (fun a h1 h2 => p10.2.1 a (by omega))
  refine ok_aloadn (pc' := 42) i264_41 rfl rfl <| ok_bipush (v := 32) (pc' := 44) i264_42 rfl rfl <| ?_
  refine ok_cn0 (pc' := 47) (d0 := 0) i264_44 rfl (cl_v o264 m9_350 na262 rfl rfl (bt rfl) (bt rfl) rfl (by rw [ShModel_k0 hSO, o262])) ln262 (pd262 (aR O) (aI 32)) (by omega) (t262 (x1 := 32) hSO p10.1 (by omega)) rfl (fun M12 p13 => ?_)
  obtain ⟨tt14, htt14⟩ : ∃ u9 : Tx, u9 = say tt11 32 := ⟨_, rfl⟩
  rw [← htt14] at p13
  have z8 : tt14.1 = tt11.1 + 1 := by rw [htt14]; rfl
  have hFM12 : RepO M12 O q s := RepO.fr hFM9 ⟨p13.2.2 2 (by decide), p13.2.2 3 (by decide)⟩ (fun a h1 h2 => p13.2.1 a (by omega))
  refine ok_aloadn (pc' := 48) i264_47 rfl rfl <| ok_aloadn (pc' := 49) i264_48 rfl rfl <| ok_iloadn (pc' := 50) i264_49 rfl rfl <| ok_iconst (pc' := 51) i264_50 rfl <| ok_cc i264_51 rfl (cl_v o264 m9_226 na191 rfl rfl (bt rfl) (bt rfl) rfl (by rw [ShModel_k0 hSO, o191])) ln191 (pd191 (aR O) (aI x1) (aI 5)) <| ok_aloadn (pc' := 1) i191_0 rfl rfl <| ok_getfr (r := (O + 5)) (pc' := 4) i191_1 o191 gr9_22 (ShModel_k0 hSO) (ShModel_r8 hSO) rfl <| ok_sipush (v := 414) (pc' := 7) i191_4 rfl rfl <| ?_
  refine ok_bipush (v := 8) (pc' := 9) i191_7 rfl rfl <| ok_iloadn (pc' := 10) i191_9 rfl rfl <| ok_imul (v := (8 * x1)) (pc' := 11) i191_10 rfl rfl <| ok_iadd (v := (414 + (8 * x1))) (pc' := 12) i191_11 rfl rfl <| ok_iloadn (pc' := 13) i191_12 rfl rfl <| ok_iadd (v := ((414 + (8 * x1)) + 5)) (pc' := 14) i191_13 rfl rfl <| ?_
  have z9 : 0 ≤ s ((414 + (8 * x1)) + 5) ∧ s ((414 + (8 * x1)) + 5) ≤ 9 := V_o5 hV (i := x1) (by omega) (by omega)
  refine ok_iaload (v := (s ((414 + (8 * x1)) + 5))) (pc' := 15) i191_14 (ShModel_k5 hSO) (by decide) (ShModel_l5 hSO) (by omega) (RepO_s hFM12) rfl <| ok_ireti i191_15 rt191 <| kt_v (pc' := 54) rfl <| ?_
  refine ok_cn0 (pc' := 57) (d0 := 3) i264_54 rfl (cl_v o264 m9_347 na263 rfl rfl (bt rfl) (bt rfl) rfl (by rw [ShModel_k0 hSO, o263])) ln263 (pd263 (aR O) (aI (s ((414 + (8 * x1)) + 5)))) (by omega) (t263 (x1 := (s ((414 + (8 * x1)) + 5))) hSO p13.1 (by omega) (by omega)) rfl (fun M15 p16 => ?_)
  obtain ⟨tt17, htt17⟩ : ∃ u9 : Tx, u9 = sayN tt14 (s ((414 + (8 * x1)) + 5)) := ⟨_, rfl⟩
  rw [← htt17] at p16
  have z10 : tt14.1 + 1 ≤ tt17.1 ∧ tt17.1 ≤ tt14.1 + 3 := by rw [htt17]; exact sayN_1
  have z11 : tt17.1 ≤ tt14.1 + 2 := by rw [htt17]; exact sayN_s (by omega)
  have hFM15 : RepO M15 O q s := RepO.fr hFM12 ⟨p16.2.2 2 (by decide), p16.2.2 3 (by decide)⟩ (fun a h1 h2 => p16.2.1 a (by omega))
  refine ok_aloadn (pc' := 58) i264_57 rfl rfl <| ok_bipush (v := 43) (pc' := 60) i264_58 rfl rfl <| ?_
  refine ok_cn0 (pc' := 63) (d0 := 0) i264_60 rfl (cl_v o264 m9_350 na262 rfl rfl (bt rfl) (bt rfl) rfl (by rw [ShModel_k0 hSO, o262])) ln262 (pd262 (aR O) (aI 43)) (by omega) (t262 (x1 := 43) hSO p16.1 (by omega)) rfl (fun M18 p19 => ?_)
  obtain ⟨tt20, htt20⟩ : ∃ u9 : Tx, u9 = say tt17 43 := ⟨_, rfl⟩
  rw [← htt20] at p19
  have z12 : tt20.1 = tt17.1 + 1 := by rw [htt20]; rfl
  have hFM18 : RepO M18 O q s := RepO.fr hFM15 ⟨p19.2.2 2 (by decide), p19.2.2 3 (by decide)⟩ (fun a h1 h2 => p19.2.1 a (by omega))
  refine ok_aloadn (pc' := 64) i264_63 rfl rfl <| ok_aloadn (pc' := 65) i264_64 rfl rfl <| ok_iloadn (pc' := 66) i264_65 rfl rfl <| ok_bipush (v := 6) (pc' := 68) i264_66 rfl rfl <| ok_cc i264_68 rfl (cl_v o264 m9_226 na191 rfl rfl (bt rfl) (bt rfl) rfl (by rw [ShModel_k0 hSO, o191])) ln191 (pd191 (aR O) (aI x1) (aI 6)) <| ok_aloadn (pc' := 1) i191_0 rfl rfl <| ok_getfr (r := (O + 5)) (pc' := 4) i191_1 o191 gr9_22 (ShModel_k0 hSO) (ShModel_r8 hSO) rfl <| ok_sipush (v := 414) (pc' := 7) i191_4 rfl rfl <| ?_
  refine ok_bipush (v := 8) (pc' := 9) i191_7 rfl rfl <| ok_iloadn (pc' := 10) i191_9 rfl rfl <| ok_imul (v := (8 * x1)) (pc' := 11) i191_10 rfl rfl <| ok_iadd (v := (414 + (8 * x1))) (pc' := 12) i191_11 rfl rfl <| ok_iloadn (pc' := 13) i191_12 rfl rfl <| ok_iadd (v := ((414 + (8 * x1)) + 6)) (pc' := 14) i191_13 rfl rfl <| ?_
  have z13 : 0 ≤ s ((414 + (8 * x1)) + 6) ∧ s ((414 + (8 * x1)) + 6) ≤ 9 := V_o6 hV (i := x1) (by omega) (by omega)
  refine ok_iaload (v := (s ((414 + (8 * x1)) + 6))) (pc' := 15) i191_14 (ShModel_k5 hSO) (by decide) (ShModel_l5 hSO) (by omega) (RepO_s hFM18) rfl <| ok_ireti i191_15 rt191 <| kt_v (pc' := 71) rfl <| ?_
  refine ok_cn0 (pc' := 74) (d0 := 3) i264_71 rfl (cl_v o264 m9_347 na263 rfl rfl (bt rfl) (bt rfl) rfl (by rw [ShModel_k0 hSO, o263])) ln263 (pd263 (aR O) (aI (s ((414 + (8 * x1)) + 6)))) (by omega) (t263 (x1 := (s ((414 + (8 * x1)) + 6))) hSO p19.1 (by omega) (by omega)) rfl (fun M21 p22 => ?_)
  obtain ⟨tt23, htt23⟩ : ∃ u9 : Tx, u9 = sayN tt20 (s ((414 + (8 * x1)) + 6)) := ⟨_, rfl⟩
  rw [← htt23] at p22
  have z14 : tt20.1 + 1 ≤ tt23.1 ∧ tt23.1 ≤ tt20.1 + 3 := by rw [htt23]; exact sayN_1
  have z15 : tt23.1 ≤ tt20.1 + 2 := by rw [htt23]; exact sayN_s (by omega)
  have hFM21 : RepO M21 O q s := RepO.fr hFM18 ⟨p22.2.2 2 (by decide), p22.2.2 3 (by decide)⟩ (fun a h1 h2 => p22.2.1 a (by omega))
  refine ok_aloadn (pc' := 75) i264_74 rfl rfl <| ok_bipush (v := 47) (pc' := 77) i264_75 rfl rfl <| ?_
  refine ok_cn0 (pc' := 80) (d0 := 0) i264_77 rfl (cl_v o264 m9_350 na262 rfl rfl (bt rfl) (bt rfl) rfl (by rw [ShModel_k0 hSO, o262])) ln262 (pd262 (aR O) (aI 47)) (by omega) (t262 (x1 := 47) hSO p22.1 (by omega)) rfl (fun M24 p25 => ?_)
  obtain ⟨tt26, htt26⟩ : ∃ u9 : Tx, u9 = say tt23 47 := ⟨_, rfl⟩
  rw [← htt26] at p25
  have z16 : tt26.1 = tt23.1 + 1 := by rw [htt26]; rfl
  have hFM24 : RepO M24 O q s := RepO.fr hFM21 ⟨p25.2.2 2 (by decide), p25.2.2 3 (by decide)⟩ (fun a h1 h2 => p25.2.1 a (by omega))
  refine ok_aloadn (pc' := 81) i264_80 rfl rfl <| ok_aloadn (pc' := 82) i264_81 rfl rfl <| ok_iloadn (pc' := 83) i264_82 rfl rfl <| ok_iconst (pc' := 84) i264_83 rfl <| ok_cc i264_84 rfl (cl_v o264 m9_226 na191 rfl rfl (bt rfl) (bt rfl) rfl (by rw [ShModel_k0 hSO, o191])) ln191 (pd191 (aR O) (aI x1) (aI 4)) <| ok_aloadn (pc' := 1) i191_0 rfl rfl <| ok_getfr (r := (O + 5)) (pc' := 4) i191_1 o191 gr9_22 (ShModel_k0 hSO) (ShModel_r8 hSO) rfl <| ok_sipush (v := 414) (pc' := 7) i191_4 rfl rfl <| ?_
  refine ok_bipush (v := 8) (pc' := 9) i191_7 rfl rfl <| ok_iloadn (pc' := 10) i191_9 rfl rfl <| ok_imul (v := (8 * x1)) (pc' := 11) i191_10 rfl rfl <| ok_iadd (v := (414 + (8 * x1))) (pc' := 12) i191_11 rfl rfl <| ok_iloadn (pc' := 13) i191_12 rfl rfl <| ok_iadd (v := ((414 + (8 * x1)) + 4)) (pc' := 14) i191_13 rfl rfl <| ?_
  have z17 : 0 ≤ s ((414 + (8 * x1)) + 4) ∧ s ((414 + (8 * x1)) + 4) ≤ 9 := V_o4 hV (i := x1) (by omega) (by omega)
  refine ok_iaload (v := (s ((414 + (8 * x1)) + 4))) (pc' := 15) i191_14 (ShModel_k5 hSO) (by decide) (ShModel_l5 hSO) (by omega) (RepO_s hFM24) rfl <| ok_ireti i191_15 rt191 <| kt_v (pc' := 87) rfl <| ?_
  refine ok_cn0 (pc' := 90) (d0 := 3) i264_87 rfl (cl_v o264 m9_347 na263 rfl rfl (bt rfl) (bt rfl) rfl (by rw [ShModel_k0 hSO, o263])) ln263 (pd263 (aR O) (aI (s ((414 + (8 * x1)) + 4)))) (by omega) (t263 (x1 := (s ((414 + (8 * x1)) + 4))) hSO p25.1 (by omega) (by omega)) rfl (fun M27 p28 => ?_)
  obtain ⟨tt29, htt29⟩ : ∃ u9 : Tx, u9 = sayN tt26 (s ((414 + (8 * x1)) + 4)) := ⟨_, rfl⟩
  rw [← htt29] at p28
  have z18 : tt26.1 + 1 ≤ tt29.1 ∧ tt29.1 ≤ tt26.1 + 3 := by rw [htt29]; exact sayN_1
  have z19 : tt29.1 ≤ tt26.1 + 2 := by rw [htt29]; exact sayN_s (by omega)
  have hFM27 : RepO M27 O q s := RepO.fr hFM24 ⟨p28.2.2 2 (by decide), p28.2.2 3 (by decide)⟩ (fun a h1 h2 => p28.2.1 a (by omega))
  refine ok_aloadn (pc' := 91) i264_90 rfl rfl <| ok_bipush (v := 32) (pc' := 93) i264_91 rfl rfl <| ?_
  refine ok_cn0 (pc' := 96) (d0 := 0) i264_93 rfl (cl_v o264 m9_350 na262 rfl rfl (bt rfl) (bt rfl) rfl (by rw [ShModel_k0 hSO, o262])) ln262 (pd262 (aR O) (aI 32)) (by omega) (t262 (x1 := 32) hSO p28.1 (by omega)) rfl (fun M30 p31 => ?_)
  obtain ⟨tt32, htt32⟩ : ∃ u9 : Tx, u9 = say tt29 32 := ⟨_, rfl⟩
  rw [← htt32] at p31
  have z20 : tt32.1 = tt29.1 + 1 := by rw [htt32]; rfl
  have hFM30 : RepO M30 O q s := RepO.fr hFM27 ⟨p31.2.2 2 (by decide), p31.2.2 3 (by decide)⟩ (fun a h1 h2 => p31.2.1 a (by omega))
  refine ok_aloadn (pc' := 97) i264_96 rfl rfl <| ok_bipush (v := 100) (pc' := 99) i264_97 rfl rfl <| ?_
  refine ok_cn0 (pc' := 102) (d0 := 0) i264_99 rfl (cl_v o264 m9_350 na262 rfl rfl (bt rfl) (bt rfl) rfl (by rw [ShModel_k0 hSO, o262])) ln262 (pd262 (aR O) (aI 100)) (by omega) (t262 (x1 := 100) hSO p31.1 (by omega)) rfl (fun M33 p34 => ?_)
  obtain ⟨tt35, htt35⟩ : ∃ u9 : Tx, u9 = say tt32 100 := ⟨_, rfl⟩
  rw [← htt35] at p34
  have z21 : tt35.1 = tt32.1 + 1 := by rw [htt35]; rfl
  have hFM33 : RepO M33 O q s := RepO.fr hFM30 ⟨p34.2.2 2 (by decide), p34.2.2 3 (by decide)⟩ (fun a h1 h2 => p34.2.1 a (by omega))
  refine ok_aloadn (pc' := 103) i264_102 rfl rfl <| ok_aloadn (pc' := 104) i264_103 rfl rfl <| ok_iloadn (pc' := 105) i264_104 rfl rfl <| ok_iconst (pc' := 106) i264_105 rfl <| ok_cc i264_106 rfl (cl_v o264 m9_226 na191 rfl rfl (bt rfl) (bt rfl) rfl (by rw [ShModel_k0 hSO, o191])) ln191 (pd191 (aR O) (aI x1) (aI 3)) <| ok_aloadn (pc' := 1) i191_0 rfl rfl <| ok_getfr (r := (O + 5)) (pc' := 4) i191_1 o191 gr9_22 (ShModel_k0 hSO) (ShModel_r8 hSO) rfl <| ok_sipush (v := 414) (pc' := 7) i191_4 rfl rfl <| ?_
  refine ok_bipush (v := 8) (pc' := 9) i191_7 rfl rfl <| ok_iloadn (pc' := 10) i191_9 rfl rfl <| ok_imul (v := (8 * x1)) (pc' := 11) i191_10 rfl rfl <| ok_iadd (v := (414 + (8 * x1))) (pc' := 12) i191_11 rfl rfl <| ok_iloadn (pc' := 13) i191_12 rfl rfl <| ok_iadd (v := ((414 + (8 * x1)) + 3)) (pc' := 14) i191_13 rfl rfl <| ?_
  have z22 : 0 ≤ s ((414 + (8 * x1)) + 3) ∧ s ((414 + (8 * x1)) + 3) ≤ 999 := V_o3 hV (i := x1) (by omega) (by omega)
  refine ok_iaload (v := (s ((414 + (8 * x1)) + 3))) (pc' := 15) i191_14 (ShModel_k5 hSO) (by decide) (ShModel_l5 hSO) (by omega) (RepO_s hFM33) rfl <| ok_ireti i191_15 rt191 <| kt_v (pc' := 109) rfl <| ?_
  refine ok_cn0 (pc' := 112) (d0 := 3) i264_109 rfl (cl_v o264 m9_347 na263 rfl rfl (bt rfl) (bt rfl) rfl (by rw [ShModel_k0 hSO, o263])) ln263 (pd263 (aR O) (aI (s ((414 + (8 * x1)) + 3)))) (by omega) (t263 (x1 := (s ((414 + (8 * x1)) + 3))) hSO p34.1 (by omega) (by omega)) rfl (fun M36 p37 => ?_)
  obtain ⟨tt38, htt38⟩ : ∃ u9 : Tx, u9 = sayN tt35 (s ((414 + (8 * x1)) + 3)) := ⟨_, rfl⟩
  rw [← htt38] at p37
  have z23 : tt35.1 + 1 ≤ tt38.1 ∧ tt38.1 ≤ tt35.1 + 3 := by rw [htt38]; exact sayN_1
  have hFM36 : RepO M36 O q s := RepO.fr hFM33 ⟨p37.2.2 2 (by decide), p37.2.2 3 (by decide)⟩ (fun a h1 h2 => p37.2.1 a (by omega))
  refine ok_aloadn (pc' := 113) i264_112 rfl rfl <| ok_iloadn (pc' := 114) i264_113 rfl rfl <| ok_bipush (v := 7) (pc' := 116) i264_114 rfl rfl <| ok_cc i264_116 rfl (cl_v o264 m9_226 na191 rfl rfl (bt rfl) (bt rfl) rfl (by rw [ShModel_k0 hSO, o191])) ln191 (pd191 (aR O) (aI x1) (aI 7)) <| ok_aloadn (pc' := 1) i191_0 rfl rfl <| ok_getfr (r := (O + 5)) (pc' := 4) i191_1 o191 gr9_22 (ShModel_k0 hSO) (ShModel_r8 hSO) rfl <| ok_sipush (v := 414) (pc' := 7) i191_4 rfl rfl <| ok_bipush (v := 8) (pc' := 9) i191_7 rfl rfl <| ?_
  refine ok_iloadn (pc' := 10) i191_9 rfl rfl <| ok_imul (v := (8 * x1)) (pc' := 11) i191_10 rfl rfl <| ok_iadd (v := (414 + (8 * x1))) (pc' := 12) i191_11 rfl rfl <| ok_iloadn (pc' := 13) i191_12 rfl rfl <| ok_iadd (v := ((414 + (8 * x1)) + 7)) (pc' := 14) i191_13 rfl rfl <| ?_
  have z24 : 0 ≤ s ((414 + (8 * x1)) + 7) ∧ s ((414 + (8 * x1)) + 7) ≤ 1 := V_o7 hV (i := x1) (by omega) (by omega)
  refine ok_iaload (v := (s ((414 + (8 * x1)) + 7))) (pc' := 15) i191_14 (ShModel_k5 hSO) (by decide) (ShModel_l5 hSO) (by omega) (RepO_s hFM36) rfl <| ok_ireti i191_15 rt191 <| kt_v (pc' := 119) rfl <| ok_iconst (pc' := 120) i264_119 rfl <| ?_
  refine ok_cne (pc1 := 153) (pc2 := 123) i264_120 (by omega) rfl rfl (fun h39 => ?_) (fun h39 => ?_)
  · refine ok_aloadn (pc' := 154) i264_153 rfl rfl <| ok_getfi (v := tt38.1) (pc' := 157) i264_154 o264 gi9_344 (ShModel_k0 hSO) p37.1.1 rfl <| ok_ireti i264_157 rt264 <| ?_
    have e : textO s x1 = tt38 := by rw [htt38, htt35, htt32, htt29, htt26, htt23, htt20, htt17, htt14, htt11, htt8, htt5]; unfold textO; rw [if_neg (by omega)]; rfl
    exact ⟨by rw [e], rfl, by rw [e]; exact p37.1, ⟨fun c hc => (p37.2.1 c hc).trans ((p34.2.1 c hc).trans ((p31.2.1 c hc).trans ((p28.2.1 c hc).trans ((p25.2.1 c hc).trans ((p22.2.1 c hc).trans ((p19.2.1 c hc).trans ((p16.2.1 c hc).trans ((p13.2.1 c hc).trans ((p10.2.1 c hc).trans ((p7.2.1 c hc).trans ((p4.2.1 c hc).trans (hN8.1 c hc)))))))))))), fun y hy => (p37.2.2 y hy.1).trans ((p34.2.2 y hy.1).trans ((p31.2.2 y hy.1).trans ((p28.2.2 y hy.1).trans ((p25.2.2 y hy.1).trans ((p22.2.2 y hy.1).trans ((p19.2.2 y hy.1).trans ((p16.2.2 y hy.1).trans ((p13.2.2 y hy.1).trans ((p10.2.2 y hy.1).trans ((p7.2.2 y hy.1).trans ((p4.2.2 y hy.1).trans (hN8.2.1 y hy)))))))))))), (p37.2.2 0 (by decide)).trans ((p34.2.2 0 (by decide)).trans ((p31.2.2 0 (by decide)).trans ((p28.2.2 0 (by decide)).trans ((p25.2.2 0 (by decide)).trans ((p22.2.2 0 (by decide)).trans ((p19.2.2 0 (by decide)).trans ((p16.2.2 0 (by decide)).trans ((p13.2.2 0 (by decide)).trans ((p10.2.2 0 (by decide)).trans ((p7.2.2 0 (by decide)).trans ((p4.2.2 0 (by decide)).trans (hN8.2.2))))))))))))⟩⟩
  · refine ok_aloadn (pc' := 124) i264_123 rfl rfl <| ok_bipush (v := 32) (pc' := 126) i264_124 rfl rfl <| ?_
    refine ok_cn0 (pc' := 129) (d0 := 0) i264_126 rfl (cl_v o264 m9_350 na262 rfl rfl (bt rfl) (bt rfl) rfl (by rw [ShModel_k0 hSO, o262])) ln262 (pd262 (aR O) (aI 32)) (by omega) (t262 (x1 := 32) hSO p37.1 (by omega)) rfl (fun M40 p41 => ?_)
    obtain ⟨tt42, htt42⟩ : ∃ u9 : Tx, u9 = say tt38 32 := ⟨_, rfl⟩
    rw [← htt42] at p41
    have z25 : tt42.1 = tt38.1 + 1 := by rw [htt42]; rfl
    have hFM40 : RepO M40 O q s := RepO.fr hFM36 ⟨p41.2.2 2 (by decide), p41.2.2 3 (by decide)⟩ (fun a h1 h2 => p41.2.1 a (by omega))
    refine ok_aloadn (pc' := 130) i264_129 rfl rfl <| ok_bipush (v := 103) (pc' := 132) i264_130 rfl rfl <| ?_
    refine ok_cn0 (pc' := 135) (d0 := 0) i264_132 rfl (cl_v o264 m9_350 na262 rfl rfl (bt rfl) (bt rfl) rfl (by rw [ShModel_k0 hSO, o262])) ln262 (pd262 (aR O) (aI 103)) (by omega) (t262 (x1 := 103) hSO p41.1 (by omega)) rfl (fun M43 p44 => ?_)
    obtain ⟨tt45, htt45⟩ : ∃ u9 : Tx, u9 = say tt42 103 := ⟨_, rfl⟩
    rw [← htt45] at p44
    have z26 : tt45.1 = tt42.1 + 1 := by rw [htt45]; rfl
    have hFM43 : RepO M43 O q s := RepO.fr hFM40 ⟨p44.2.2 2 (by decide), p44.2.2 3 (by decide)⟩ (fun a h1 h2 => p44.2.1 a (by omega))
    refine ok_aloadn (pc' := 136) i264_135 rfl rfl <| ok_bipush (v := 111) (pc' := 138) i264_136 rfl rfl <| ?_
    refine ok_cn0 (pc' := 141) (d0 := 0) i264_138 rfl (cl_v o264 m9_350 na262 rfl rfl (bt rfl) (bt rfl) rfl (by rw [ShModel_k0 hSO, o262])) ln262 (pd262 (aR O) (aI 111)) (by omega) (t262 (x1 := 111) hSO p44.1 (by omega)) rfl (fun M46 p47 => ?_)
    obtain ⟨tt48, htt48⟩ : ∃ u9 : Tx, u9 = say tt45 111 := ⟨_, rfl⟩
    rw [← htt48] at p47
    have z27 : tt48.1 = tt45.1 + 1 := by rw [htt48]; rfl
    have hFM46 : RepO M46 O q s := RepO.fr hFM43 ⟨p47.2.2 2 (by decide), p47.2.2 3 (by decide)⟩ (fun a h1 h2 => p47.2.1 a (by omega))
    refine ok_aloadn (pc' := 142) i264_141 rfl rfl <| ok_bipush (v := 110) (pc' := 144) i264_142 rfl rfl <| ?_
    refine ok_cn0 (pc' := 147) (d0 := 0) i264_144 rfl (cl_v o264 m9_350 na262 rfl rfl (bt rfl) (bt rfl) rfl (by rw [ShModel_k0 hSO, o262])) ln262 (pd262 (aR O) (aI 110)) (by omega) (t262 (x1 := 110) hSO p47.1 (by omega)) rfl (fun M49 p50 => ?_)
    obtain ⟨tt51, htt51⟩ : ∃ u9 : Tx, u9 = say tt48 110 := ⟨_, rfl⟩
    rw [← htt51] at p50
    have z28 : tt51.1 = tt48.1 + 1 := by rw [htt51]; rfl
    have hFM49 : RepO M49 O q s := RepO.fr hFM46 ⟨p50.2.2 2 (by decide), p50.2.2 3 (by decide)⟩ (fun a h1 h2 => p50.2.1 a (by omega))
    refine ok_aloadn (pc' := 148) i264_147 rfl rfl <| ok_bipush (v := 101) (pc' := 150) i264_148 rfl rfl <| ?_
    refine ok_cn0 (pc' := 153) (d0 := 0) i264_150 rfl (cl_v o264 m9_350 na262 rfl rfl (bt rfl) (bt rfl) rfl (by rw [ShModel_k0 hSO, o262])) ln262 (pd262 (aR O) (aI 101)) (by omega) (t262 (x1 := 101) hSO p50.1 (by omega)) rfl (fun M52 p53 => ?_)
    obtain ⟨tt54, htt54⟩ : ∃ u9 : Tx, u9 = say tt51 101 := ⟨_, rfl⟩
    rw [← htt54] at p53
    have z29 : tt54.1 = tt51.1 + 1 := by rw [htt54]; rfl
    have hFM52 : RepO M52 O q s := RepO.fr hFM49 ⟨p53.2.2 2 (by decide), p53.2.2 3 (by decide)⟩ (fun a h1 h2 => p53.2.1 a (by omega))
    refine ok_aloadn (pc' := 154) i264_153 rfl rfl <| ok_getfi (v := tt54.1) (pc' := 157) i264_154 o264 gi9_344 (ShModel_k0 hSO) p53.1.1 rfl <| ok_ireti i264_157 rt264 <| ?_
    have e : textO s x1 = tt54 := by rw [htt54, htt51, htt48, htt45, htt42, htt38, htt35, htt32, htt29, htt26, htt23, htt20, htt17, htt14, htt11, htt8, htt5]; unfold textO; rw [if_pos (by omega)]; rfl
    exact ⟨by rw [e], rfl, by rw [e]; exact p53.1, ⟨fun c hc => (p53.2.1 c hc).trans ((p50.2.1 c hc).trans ((p47.2.1 c hc).trans ((p44.2.1 c hc).trans ((p41.2.1 c hc).trans ((p37.2.1 c hc).trans ((p34.2.1 c hc).trans ((p31.2.1 c hc).trans ((p28.2.1 c hc).trans ((p25.2.1 c hc).trans ((p22.2.1 c hc).trans ((p19.2.1 c hc).trans ((p16.2.1 c hc).trans ((p13.2.1 c hc).trans ((p10.2.1 c hc).trans ((p7.2.1 c hc).trans ((p4.2.1 c hc).trans (hN8.1 c hc))))))))))))))))), fun y hy => (p53.2.2 y hy.1).trans ((p50.2.2 y hy.1).trans ((p47.2.2 y hy.1).trans ((p44.2.2 y hy.1).trans ((p41.2.2 y hy.1).trans ((p37.2.2 y hy.1).trans ((p34.2.2 y hy.1).trans ((p31.2.2 y hy.1).trans ((p28.2.2 y hy.1).trans ((p25.2.2 y hy.1).trans ((p22.2.2 y hy.1).trans ((p19.2.2 y hy.1).trans ((p16.2.2 y hy.1).trans ((p13.2.2 y hy.1).trans ((p10.2.2 y hy.1).trans ((p7.2.2 y hy.1).trans ((p4.2.2 y hy.1).trans (hN8.2.1 y hy))))))))))))))))), (p53.2.2 0 (by decide)).trans ((p50.2.2 0 (by decide)).trans ((p47.2.2 0 (by decide)).trans ((p44.2.2 0 (by decide)).trans ((p41.2.2 0 (by decide)).trans ((p37.2.2 0 (by decide)).trans ((p34.2.2 0 (by decide)).trans ((p31.2.2 0 (by decide)).trans ((p28.2.2 0 (by decide)).trans ((p25.2.2 0 (by decide)).trans ((p22.2.2 0 (by decide)).trans ((p19.2.2 0 (by decide)).trans ((p16.2.2 0 (by decide)).trans ((p13.2.2 0 (by decide)).trans ((p10.2.2 0 (by decide)).trans ((p7.2.2 0 (by decide)).trans ((p4.2.2 0 (by decide)).trans (hN8.2.2)))))))))))))))))⟩⟩
theorem t261 {g : AG} {M : AM} {O : Nat} {s q : Int → Int} {b : Int} (hSO : ShModel g O) (hRO : RepO M O q s) (hV : Val b q s) (hQ : ValQ q) (h40 : s 3 ≤ 40) (hYd : M O 1 = 1) :
    Ok 5 261 0 [aR O, aU] [] g M (Rt (some (aI (textR s).1)) g (fun M9 => RepU M9 O (textR s) ∧ (∀ c, c ≠ O ∧ c ≠ O + 15 → M9 c = M c) ∧ (∀ y : Int, y ≠ 35 ∧ y ≠ 0 → M9 O y = M O y) ∧ M9 O 0 = 0)) := by
  have ys3 : 0 ≤ s 3 ∧ s 3 ≤ 80 := V_3 hV
  have ys4 : 0 ≤ s 4 ∧ s 4 ≤ 16 := V_4 hV
  have yq0 : 0 ≤ q 0 ∧ q 0 ≤ 4 := Q_0 hQ
  have yq1 : 0 ≤ q 1 ∧ q 1 ≤ 6 := Q_1 hQ
  refine ok_aloadn (pc' := 1) i261_0 rfl rfl <| ok_cc i261_1 rfl (cl_v o261 m9_216 na188 rfl rfl (bt rfl) (bt rfl) rfl (by rw [ShModel_k0 hSO, o188])) ln188 (pd188 (aR O)) <| ok_aloadn (pc' := 1) i188_0 rfl rfl <| ok_iconst (pc' := 2) i188_1 rfl <| ok_putfi (pc' := 5) i188_2 o188 pi188_63 (ShModel_k0 hSO) rfl <| ok_aloadn (pc' := 6) i188_5 rfl rfl <| ok_aloadn (pc' := 7) i188_6 rfl rfl <| ok_getfi (v := 1) (pc' := 10) i188_7 o188 gi9_66 (ShModel_k0 hSO) (rd_ni (by decide) hYd) rfl <| ?_
  refine ok_kz1 (pc1 := 17) (pc2 := 13) i188_10 (by decide) rfl rfl <| ok_iconst (pc' := 18) i188_17 rfl <| ok_iconst (pc' := 19) i188_18 rfl <| ok_cc i188_19 rfl (cl_v o188 m9_70 na165 rfl rfl (bt rfl) (bt rfl) rfl (by rw [ShModel_k0 hSO, o165])) ln165 (pd165 (aR O) (aI 0) (aI 1)) <| ok_aloadn (pc' := 1) i165_0 rfl rfl <| ok_getfi (v := 0) (pc' := 4) i165_1 o165 gi9_63 (ShModel_k0 hSO) rd_eq rfl <| ok_kz0 (pc1 := 16) (pc2 := 7) i165_4 (by decide) rfl rfl <| ok_iloadn (pc' := 8) i165_7 rfl rfl <| ?_
  refine ok_kz1 (pc1 := 16) (pc2 := 11) i165_8 (by decide) rfl rfl <| ok_aloadn (pc' := 17) i165_16 rfl rfl <| ok_getfi (v := 0) (pc' := 20) i165_17 o165 gi9_63 (ShModel_k0 hSO) rd_eq rfl <| ok_kz1 (pc1 := 27) (pc2 := 23) i165_20 (by decide) rfl rfl <| ok_iconst (pc' := 28) i165_27 rfl <| ok_iretz i165_28 rt165 (by decide) <| kt_v (pc' := 22) rfl <| ok_iretz i188_22 rt188 (by decide) <| ?_
  refine kt_v (pc' := 4) rfl <| ok_kz1 (pc1 := 9) (pc2 := 7) i261_4 (by decide) rfl rfl <| ok_aloadn (pc' := 10) i261_9 rfl rfl <| ok_iconst (pc' := 11) i261_10 rfl <| ok_putfi (pc' := 14) i261_11 o261 pi261_344 (ShModel_k0 hSO) rfl <| ok_iconst (pc' := 15) i261_14 rfl <| ok_istoren (pc' := 16) (ls' := [aR O, aI 0]) i261_15 (bt rfl) rfl rfl <| ?_
  obtain ⟨M8, hM8⟩ : ∃ u9 : AM, u9 = (up2 (up2 M O 0 0) O 35 0) := ⟨_, rfl⟩
  show Ok _ _ _ _ _ _ (up2 (up2 M O 0 0) O 35 0) _
  rw [← hM8]
  have hT8 : RepU M8 O t00 := ⟨by rw [hM8]; exact rd_eq, by decide, fun i h8 h9 => by have : i < 0 := h9; omega⟩
  have hN8 : (∀ c, c ≠ O ∧ c ≠ O + 15 → M8 c = M c) ∧ (∀ y : Int, y ≠ 35 ∧ y ≠ 0 → M8 O y = M O y) ∧ M8 O 0 = 0 := ⟨fun c hc => by rw [hM8, up2_na hc.1, up2_na hc.1], fun y hy => by rw [hM8, up2_rd, if_neg (by omega), up2_rd, if_neg (by omega)], by rw [hM8, up2_rd, if_neg (by omega)]; exact rd_eq⟩
  have hR8 : RepO M8 O q s := RepO.fr hRO ⟨hN8.2.1 2 (by decide), hN8.2.1 3 (by decide)⟩ (fun a h1 h2 => hN8.1 a (by omega))
  have z1 : t00.1 = 0 := rfl
  refine ok_for (lo := 0) (n := (s 3).toNat) (f := rodsX s) (a0 := t00) (fun x1 t ls M9 => RepU M9 O t ∧ t.1 ≤ 8 * x1 ∧ ((∀ c, c ≠ O ∧ c ≠ O + 15 → M9 c = M c) ∧ (∀ y : Int, y ≠ 35 ∧ y ≠ 0 → M9 O y = M O y) ∧ M9 O 0 = 0) ∧ ls = [aR O, aI x1]) ?_ ?_ _ _ ⟨hT8, by decide, hN8, rfl⟩
  · rintro x1 t ls M9 g1 g2 ⟨hT, hl, hN, rfl⟩ ih
    have g3 : x1 < s 3 := by omega
    have htl : 0 ≤ t.1 ∧ t.1 ≤ 8 * x1 := ⟨hT.2.1, hl⟩
    have hR9 : RepO M9 O q s := RepO.fr hRO ⟨hN.2.1 2 (by decide), hN.2.1 3 (by decide)⟩ (fun a h1 h2 => hN.1 a (by omega))
    refine ok_iloadn (pc' := 17) i261_16 rfl rfl <| ok_aloadn (pc' := 18) i261_17 rfl rfl <| ok_getfr (r := (O + 5)) (pc' := 21) i261_18 o261 gr9_22 (ShModel_k0 hSO) (ShModel_r8 hSO) rfl <| ok_iconst (pc' := 22) i261_21 rfl <| ok_iaload (v := (s 3)) (pc' := 23) i261_22 (ShModel_k5 hSO) (by decide) (ShModel_l5 hSO) (by decide) (RepO_s hR9) rfl <| ?_
    refine ok_cge (pc1 := 100) (pc2 := 26) i261_23 (by omega) rfl rfl (fun h9 => by exfalso; omega) (fun h1 => ?_)
    refine ok_aloadn (pc' := 27) i261_26 rfl rfl <| ok_iloadn (pc' := 28) i261_27 rfl rfl <| ok_cc i261_28 rfl (cl_v o261 m9_229 na189 rfl rfl (bt rfl) (bt rfl) rfl (by rw [ShModel_k0 hSO, o189])) ln189 (pd189 (aR O) (aI x1)) <| ok_aloadn (pc' := 1) i189_0 rfl rfl <| ok_getfr (r := (O + 5)) (pc' := 4) i189_1 o189 gr9_22 (ShModel_k0 hSO) (ShModel_r8 hSO) rfl <| ok_sipush (v := 174) (pc' := 7) i189_4 rfl rfl <| ok_iloadn (pc' := 8) i189_7 rfl rfl <| ok_iadd (v := (174 + x1)) (pc' := 9) i189_8 rfl rfl <| ?_
    have z61 : 0 ≤ s (174 + x1) ∧ s (174 + x1) ≤ 2 := V_d2 hV (i := x1) (by omega) (by omega)
    refine ok_iaload (v := (s (174 + x1))) (pc' := 10) i189_9 (ShModel_k5 hSO) (by decide) (ShModel_l5 hSO) (by omega) (RepO_s hR9) rfl <| ?_
    refine ok_zne (pc1 := 17) (pc2 := 13) i189_10 (by omega) rfl rfl (fun h2 => ?_) (fun h2 => ?_)
    · refine ok_iconst (pc' := 18) i189_17 rfl <| ok_iretz i189_18 rt189 (by decide) <| kt_v (pc' := 31) rfl <| ok_kz0 (pc1 := 37) (pc2 := 34) i261_31 (by decide) rfl rfl <| ok_goto (pc' := 94) i261_34 rfl <| ok_iinc (pc' := 97) (v := (x1 + 1)) (ls' := [aR O, aI (x1 + 1)]) i261_94 rfl rfl rfl rfl <| ok_goto (pc' := 16) i261_97 rfl <| ?_
      have e : rodsX s x1 t = t := by unfold rodsX; rw [if_neg (by omega)]
      exact ih _ _ ⟨by rw [e]; exact hT, by rw [e]; omega, ⟨fun c hc => hN.1 c hc, fun y hy => hN.2.1 y hy, hN.2.2⟩, rfl⟩
    · refine ok_iconst (pc' := 14) i189_13 rfl <| ok_goto (pc' := 18) i189_14 rfl <| ok_iretz i189_18 rt189 (by decide) <| kt_v (pc' := 31) rfl <| ok_kz1 (pc1 := 37) (pc2 := 34) i261_31 (by decide) rfl rfl <| ok_aloadn (pc' := 38) i261_37 rfl rfl <| ok_getfi (v := t.1) (pc' := 41) i261_38 o261 gi9_344 (ShModel_k0 hSO) hT.1 rfl <| ?_
      refine ok_zle (pc1 := 50) (pc2 := 44) i261_41 (by omega) rfl rfl (fun h3 => ?_) (fun h3 => ?_)
      · refine ok_aloadn (pc' := 51) i261_50 rfl rfl <| ok_iloadn (pc' := 52) i261_51 rfl rfl <| ?_
        refine ok_cn0 (pc' := 55) (d0 := 3) i261_52 rfl (cl_v o261 m9_347 na263 rfl rfl (bt rfl) (bt rfl) rfl (by rw [ShModel_k0 hSO, o263])) ln263 (pd263 (aR O) (aI x1)) (by omega) (t263 (x1 := x1) hSO hT (by omega) (by omega)) rfl (fun M4 p5 => ?_)
        obtain ⟨tt6, htt6⟩ : ∃ u9 : Tx, u9 = sayN t x1 := ⟨_, rfl⟩
        rw [← htt6] at p5
        have z62 : t.1 + 1 ≤ tt6.1 ∧ tt6.1 ≤ t.1 + 3 := by rw [htt6]; exact sayN_1
        have z63 : tt6.1 ≤ t.1 + 2 := by rw [htt6]; exact sayN_s (by omega)
        have hFM4 : RepO M4 O q s := RepO.fr hR9 ⟨p5.2.2 2 (by decide), p5.2.2 3 (by decide)⟩ (fun a h1 h2 => p5.2.1 a (by omega))
        refine ok_aloadn (pc' := 56) i261_55 rfl rfl <| ok_bipush (v := 58) (pc' := 58) i261_56 rfl rfl <| ?_
        refine ok_cn0 (pc' := 61) (d0 := 0) i261_58 rfl (cl_v o261 m9_350 na262 rfl rfl (bt rfl) (bt rfl) rfl (by rw [ShModel_k0 hSO, o262])) ln262 (pd262 (aR O) (aI 58)) (by omega) (t262 (x1 := 58) hSO p5.1 (by omega)) rfl (fun M7 p8 => ?_)
        obtain ⟨tt9, htt9⟩ : ∃ u9 : Tx, u9 = say tt6 58 := ⟨_, rfl⟩
        rw [← htt9] at p8
        have z64 : tt9.1 = tt6.1 + 1 := by rw [htt9]; rfl
        have hFM7 : RepO M7 O q s := RepO.fr hFM4 ⟨p8.2.2 2 (by decide), p8.2.2 3 (by decide)⟩ (fun a h1 h2 => p8.2.1 a (by omega))
        refine ok_aloadn (pc' := 62) i261_61 rfl rfl <| ok_aloadn (pc' := 63) i261_62 rfl rfl <| ok_getfr (r := (O + 5)) (pc' := 66) i261_63 o261 gr9_22 (ShModel_k0 hSO) (ShModel_r8 hSO) rfl <| ok_bipush (v := 94) (pc' := 68) i261_66 rfl rfl <| ok_iloadn (pc' := 69) i261_68 rfl rfl <| ok_iadd (v := (94 + x1)) (pc' := 70) i261_69 rfl rfl <| ?_
        have z65 : 0 ≤ s (94 + x1) ∧ s (94 + x1) ≤ 200 := V_d1 hV (i := x1) (by omega) (by omega)
        refine ok_iaload (v := (s (94 + x1))) (pc' := 71) i261_70 (ShModel_k5 hSO) (by decide) (ShModel_l5 hSO) (by omega) (RepO_s hFM7) rfl <| ?_
        refine ok_cn0 (pc' := 74) (d0 := 3) i261_71 rfl (cl_v o261 m9_347 na263 rfl rfl (bt rfl) (bt rfl) rfl (by rw [ShModel_k0 hSO, o263])) ln263 (pd263 (aR O) (aI (s (94 + x1)))) (by omega) (t263 (x1 := (s (94 + x1))) hSO p8.1 (by omega) (by omega)) rfl (fun M10 p11 => ?_)
        obtain ⟨tt12, htt12⟩ : ∃ u9 : Tx, u9 = sayN tt9 (s (94 + x1)) := ⟨_, rfl⟩
        rw [← htt12] at p11
        have z66 : tt9.1 + 1 ≤ tt12.1 ∧ tt12.1 ≤ tt9.1 + 3 := by rw [htt12]; exact sayN_1
        have hFM10 : RepO M10 O q s := RepO.fr hFM7 ⟨p11.2.2 2 (by decide), p11.2.2 3 (by decide)⟩ (fun a h1 h2 => p11.2.1 a (by omega))
        refine ok_aloadn (pc' := 75) i261_74 rfl rfl <| ok_getfr (r := (O + 5)) (pc' := 78) i261_75 o261 gr9_22 (ShModel_k0 hSO) (ShModel_r8 hSO) rfl <| ok_sipush (v := 334) (pc' := 81) i261_78 rfl rfl <| ok_iloadn (pc' := 82) i261_81 rfl rfl <| ok_iadd (v := (334 + x1)) (pc' := 83) i261_82 rfl rfl <| ?_
        have z67 : 0 ≤ s (334 + x1) ∧ s (334 + x1) ≤ 1 := V_d4 hV (i := x1) (by omega) (by omega)
        refine ok_iaload (v := (s (334 + x1))) (pc' := 84) i261_83 (ShModel_k5 hSO) (by decide) (ShModel_l5 hSO) (by omega) (RepO_s hFM10) rfl <| ok_iconst (pc' := 85) i261_84 rfl <| ?_
        refine ok_cne (pc1 := 94) (pc2 := 88) i261_85 (by omega) rfl rfl (fun h13 => ?_) (fun h13 => ?_)
        · refine ok_iinc (pc' := 97) (v := (x1 + 1)) (ls' := [aR O, aI (x1 + 1)]) i261_94 rfl rfl rfl rfl <| ok_goto (pc' := 16) i261_97 rfl <| ?_
          have e : rodsX s x1 t = tt12 := by rw [htt12, htt9, htt6]; unfold rodsX rodX; rw [if_pos (by omega), if_neg (show ¬ (s (334 + x1) = 1) by omega), if_neg (show ¬ (0 < t.1) by omega)]
          exact ih _ _ ⟨by rw [e]; exact p11.1, by rw [e]; omega, ⟨fun c hc => (p11.2.1 c hc).trans ((p8.2.1 c hc).trans ((p5.2.1 c hc).trans (hN.1 c hc))), fun y hy => (p11.2.2 y hy.1).trans ((p8.2.2 y hy.1).trans ((p5.2.2 y hy.1).trans (hN.2.1 y hy))), (p11.2.2 0 (by decide)).trans ((p8.2.2 0 (by decide)).trans ((p5.2.2 0 (by decide)).trans (hN.2.2)))⟩, rfl⟩
        · refine ok_aloadn (pc' := 89) i261_88 rfl rfl <| ok_bipush (v := 42) (pc' := 91) i261_89 rfl rfl <| ?_
          refine ok_cn0 (pc' := 94) (d0 := 0) i261_91 rfl (cl_v o261 m9_350 na262 rfl rfl (bt rfl) (bt rfl) rfl (by rw [ShModel_k0 hSO, o262])) ln262 (pd262 (aR O) (aI 42)) (by omega) (t262 (x1 := 42) hSO p11.1 (by omega)) rfl (fun M14 p15 => ?_)
          obtain ⟨tt16, htt16⟩ : ∃ u9 : Tx, u9 = say tt12 42 := ⟨_, rfl⟩
          rw [← htt16] at p15
          have z68 : tt16.1 = tt12.1 + 1 := by rw [htt16]; rfl
          have hFM14 : RepO M14 O q s := RepO.fr hFM10 ⟨p15.2.2 2 (by decide), p15.2.2 3 (by decide)⟩ (fun a h1 h2 => p15.2.1 a (by omega))
          refine ok_iinc (pc' := 97) (v := (x1 + 1)) (ls' := [aR O, aI (x1 + 1)]) i261_94 rfl rfl rfl rfl <| ok_goto (pc' := 16) i261_97 rfl <| ?_
          have e : rodsX s x1 t = tt16 := by rw [htt16, htt12, htt9, htt6]; unfold rodsX rodX; rw [if_pos (by omega), if_pos (show s (334 + x1) = 1 by omega), if_neg (show ¬ (0 < t.1) by omega)]
          exact ih _ _ ⟨by rw [e]; exact p15.1, by rw [e]; omega, ⟨fun c hc => (p15.2.1 c hc).trans ((p11.2.1 c hc).trans ((p8.2.1 c hc).trans ((p5.2.1 c hc).trans (hN.1 c hc)))), fun y hy => (p15.2.2 y hy.1).trans ((p11.2.2 y hy.1).trans ((p8.2.2 y hy.1).trans ((p5.2.2 y hy.1).trans (hN.2.1 y hy)))), (p15.2.2 0 (by decide)).trans ((p11.2.2 0 (by decide)).trans ((p8.2.2 0 (by decide)).trans ((p5.2.2 0 (by decide)).trans (hN.2.2))))⟩, rfl⟩
      · refine ok_aloadn (pc' := 45) i261_44 rfl rfl <| ok_bipush (v := 44) (pc' := 47) i261_45 rfl rfl <| ?_
        refine ok_cn0 (pc' := 50) (d0 := 0) i261_47 rfl (cl_v o261 m9_350 na262 rfl rfl (bt rfl) (bt rfl) rfl (by rw [ShModel_k0 hSO, o262])) ln262 (pd262 (aR O) (aI 44)) (by omega) (t262 (x1 := 44) hSO hT (by omega)) rfl (fun M17 p18 => ?_)
        obtain ⟨tt19, htt19⟩ : ∃ u9 : Tx, u9 = say t 44 := ⟨_, rfl⟩
        rw [← htt19] at p18
        have z69 : tt19.1 = t.1 + 1 := by rw [htt19]; rfl
        have hFM17 : RepO M17 O q s := RepO.fr hR9 ⟨p18.2.2 2 (by decide), p18.2.2 3 (by decide)⟩ (fun a h1 h2 => p18.2.1 a (by omega))
        refine ok_aloadn (pc' := 51) i261_50 rfl rfl <| ok_iloadn (pc' := 52) i261_51 rfl rfl <| ?_
        refine ok_cn0 (pc' := 55) (d0 := 3) i261_52 rfl (cl_v o261 m9_347 na263 rfl rfl (bt rfl) (bt rfl) rfl (by rw [ShModel_k0 hSO, o263])) ln263 (pd263 (aR O) (aI x1)) (by omega) (t263 (x1 := x1) hSO p18.1 (by omega) (by omega)) rfl (fun M20 p21 => ?_)
        obtain ⟨tt22, htt22⟩ : ∃ u9 : Tx, u9 = sayN tt19 x1 := ⟨_, rfl⟩
        rw [← htt22] at p21
        have z70 : tt19.1 + 1 ≤ tt22.1 ∧ tt22.1 ≤ tt19.1 + 3 := by rw [htt22]; exact sayN_1
        have z71 : tt22.1 ≤ tt19.1 + 2 := by rw [htt22]; exact sayN_s (by omega)
        have hFM20 : RepO M20 O q s := RepO.fr hFM17 ⟨p21.2.2 2 (by decide), p21.2.2 3 (by decide)⟩ (fun a h1 h2 => p21.2.1 a (by omega))
        refine ok_aloadn (pc' := 56) i261_55 rfl rfl <| ok_bipush (v := 58) (pc' := 58) i261_56 rfl rfl <| ?_
        refine ok_cn0 (pc' := 61) (d0 := 0) i261_58 rfl (cl_v o261 m9_350 na262 rfl rfl (bt rfl) (bt rfl) rfl (by rw [ShModel_k0 hSO, o262])) ln262 (pd262 (aR O) (aI 58)) (by omega) (t262 (x1 := 58) hSO p21.1 (by omega)) rfl (fun M23 p24 => ?_)
        obtain ⟨tt25, htt25⟩ : ∃ u9 : Tx, u9 = say tt22 58 := ⟨_, rfl⟩
        rw [← htt25] at p24
        have z72 : tt25.1 = tt22.1 + 1 := by rw [htt25]; rfl
        have hFM23 : RepO M23 O q s := RepO.fr hFM20 ⟨p24.2.2 2 (by decide), p24.2.2 3 (by decide)⟩ (fun a h1 h2 => p24.2.1 a (by omega))
        refine ok_aloadn (pc' := 62) i261_61 rfl rfl <| ok_aloadn (pc' := 63) i261_62 rfl rfl <| ok_getfr (r := (O + 5)) (pc' := 66) i261_63 o261 gr9_22 (ShModel_k0 hSO) (ShModel_r8 hSO) rfl <| ok_bipush (v := 94) (pc' := 68) i261_66 rfl rfl <| ok_iloadn (pc' := 69) i261_68 rfl rfl <| ok_iadd (v := (94 + x1)) (pc' := 70) i261_69 rfl rfl <| ?_
        have z73 : 0 ≤ s (94 + x1) ∧ s (94 + x1) ≤ 200 := V_d1 hV (i := x1) (by omega) (by omega)
        refine ok_iaload (v := (s (94 + x1))) (pc' := 71) i261_70 (ShModel_k5 hSO) (by decide) (ShModel_l5 hSO) (by omega) (RepO_s hFM23) rfl <| ?_
        refine ok_cn0 (pc' := 74) (d0 := 3) i261_71 rfl (cl_v o261 m9_347 na263 rfl rfl (bt rfl) (bt rfl) rfl (by rw [ShModel_k0 hSO, o263])) ln263 (pd263 (aR O) (aI (s (94 + x1)))) (by omega) (t263 (x1 := (s (94 + x1))) hSO p24.1 (by omega) (by omega)) rfl (fun M26 p27 => ?_)
        obtain ⟨tt28, htt28⟩ : ∃ u9 : Tx, u9 = sayN tt25 (s (94 + x1)) := ⟨_, rfl⟩
        rw [← htt28] at p27
        have z74 : tt25.1 + 1 ≤ tt28.1 ∧ tt28.1 ≤ tt25.1 + 3 := by rw [htt28]; exact sayN_1
        have hFM26 : RepO M26 O q s := RepO.fr hFM23 ⟨p27.2.2 2 (by decide), p27.2.2 3 (by decide)⟩ (fun a h1 h2 => p27.2.1 a (by omega))
        refine ok_aloadn (pc' := 75) i261_74 rfl rfl <| ok_getfr (r := (O + 5)) (pc' := 78) i261_75 o261 gr9_22 (ShModel_k0 hSO) (ShModel_r8 hSO) rfl <| ok_sipush (v := 334) (pc' := 81) i261_78 rfl rfl <| ok_iloadn (pc' := 82) i261_81 rfl rfl <| ok_iadd (v := (334 + x1)) (pc' := 83) i261_82 rfl rfl <| ?_
        have z75 : 0 ≤ s (334 + x1) ∧ s (334 + x1) ≤ 1 := V_d4 hV (i := x1) (by omega) (by omega)
        refine ok_iaload (v := (s (334 + x1))) (pc' := 84) i261_83 (ShModel_k5 hSO) (by decide) (ShModel_l5 hSO) (by omega) (RepO_s hFM26) rfl <| ok_iconst (pc' := 85) i261_84 rfl <| ?_
        refine ok_cne (pc1 := 94) (pc2 := 88) i261_85 (by omega) rfl rfl (fun h29 => ?_) (fun h29 => ?_)
        · refine ok_iinc (pc' := 97) (v := (x1 + 1)) (ls' := [aR O, aI (x1 + 1)]) i261_94 rfl rfl rfl rfl <| ok_goto (pc' := 16) i261_97 rfl <| ?_
          have e : rodsX s x1 t = tt28 := by rw [htt28, htt25, htt22, htt19]; unfold rodsX rodX; rw [if_pos (by omega), if_neg (show ¬ (s (334 + x1) = 1) by omega), if_pos (show 0 < t.1 by omega)]
          exact ih _ _ ⟨by rw [e]; exact p27.1, by rw [e]; omega, ⟨fun c hc => (p27.2.1 c hc).trans ((p24.2.1 c hc).trans ((p21.2.1 c hc).trans ((p18.2.1 c hc).trans (hN.1 c hc)))), fun y hy => (p27.2.2 y hy.1).trans ((p24.2.2 y hy.1).trans ((p21.2.2 y hy.1).trans ((p18.2.2 y hy.1).trans (hN.2.1 y hy)))), (p27.2.2 0 (by decide)).trans ((p24.2.2 0 (by decide)).trans ((p21.2.2 0 (by decide)).trans ((p18.2.2 0 (by decide)).trans (hN.2.2))))⟩, rfl⟩
        · refine ok_aloadn (pc' := 89) i261_88 rfl rfl <| ok_bipush (v := 42) (pc' := 91) i261_89 rfl rfl <| ?_
          refine ok_cn0 (pc' := 94) (d0 := 0) i261_91 rfl (cl_v o261 m9_350 na262 rfl rfl (bt rfl) (bt rfl) rfl (by rw [ShModel_k0 hSO, o262])) ln262 (pd262 (aR O) (aI 42)) (by omega) (t262 (x1 := 42) hSO p27.1 (by omega)) rfl (fun M30 p31 => ?_)
          obtain ⟨tt32, htt32⟩ : ∃ u9 : Tx, u9 = say tt28 42 := ⟨_, rfl⟩
          rw [← htt32] at p31
          have z76 : tt32.1 = tt28.1 + 1 := by rw [htt32]; rfl
          have hFM30 : RepO M30 O q s := RepO.fr hFM26 ⟨p31.2.2 2 (by decide), p31.2.2 3 (by decide)⟩ (fun a h1 h2 => p31.2.1 a (by omega))
          refine ok_iinc (pc' := 97) (v := (x1 + 1)) (ls' := [aR O, aI (x1 + 1)]) i261_94 rfl rfl rfl rfl <| ok_goto (pc' := 16) i261_97 rfl <| ?_
          have e : rodsX s x1 t = tt32 := by rw [htt32, htt28, htt25, htt22, htt19]; unfold rodsX rodX; rw [if_pos (by omega), if_pos (show s (334 + x1) = 1 by omega), if_pos (show 0 < t.1 by omega)]
          exact ih _ _ ⟨by rw [e]; exact p31.1, by rw [e]; omega, ⟨fun c hc => (p31.2.1 c hc).trans ((p27.2.1 c hc).trans ((p24.2.1 c hc).trans ((p21.2.1 c hc).trans ((p18.2.1 c hc).trans (hN.1 c hc))))), fun y hy => (p31.2.2 y hy.1).trans ((p27.2.2 y hy.1).trans ((p24.2.2 y hy.1).trans ((p21.2.2 y hy.1).trans ((p18.2.2 y hy.1).trans (hN.2.1 y hy))))), (p31.2.2 0 (by decide)).trans ((p27.2.2 0 (by decide)).trans ((p24.2.2 0 (by decide)).trans ((p21.2.2 0 (by decide)).trans ((p18.2.2 0 (by decide)).trans (hN.2.2)))))⟩, rfl⟩
  · rintro x1 t ls M9 g1 g2 ⟨hT, hl, hN, rfl⟩
    have g3 : x1 = s 3 := by omega
    have htl : 0 ≤ t.1 ∧ t.1 ≤ 8 * x1 := ⟨hT.2.1, hl⟩
    have hR9 : RepO M9 O q s := RepO.fr hRO ⟨hN.2.1 2 (by decide), hN.2.1 3 (by decide)⟩ (fun a h1 h2 => hN.1 a (by omega))
    refine ok_iloadn (pc' := 17) i261_16 rfl rfl <| ok_aloadn (pc' := 18) i261_17 rfl rfl <| ok_getfr (r := (O + 5)) (pc' := 21) i261_18 o261 gr9_22 (ShModel_k0 hSO) (ShModel_r8 hSO) rfl <| ok_iconst (pc' := 22) i261_21 rfl <| ok_iaload (v := (s 3)) (pc' := 23) i261_22 (ShModel_k5 hSO) (by decide) (ShModel_l5 hSO) (by decide) (RepO_s hR9) rfl <| ?_
    refine ok_cge (pc1 := 100) (pc2 := 26) i261_23 (by omega) rfl rfl (fun h1 => ?_) (fun h9 => by exfalso; omega)
    refine ok_aloadn (pc' := 101) i261_100 rfl rfl <| ok_getfi (v := t.1) (pc' := 104) i261_101 o261 gi9_344 (ShModel_k0 hSO) hT.1 rfl <| ?_
    refine ok_zne (pc1 := 113) (pc2 := 107) i261_104 (by omega) rfl rfl (fun h2 => ?_) (fun h2 => ?_)
    · refine ok_aloadn (pc' := 114) i261_113 rfl rfl <| ok_getfi (v := t.1) (pc' := 117) i261_114 o261 gi9_344 (ShModel_k0 hSO) hT.1 rfl <| ok_ireti i261_117 rt261 <| ?_
      have e : textR s = t := by unfold textR; rw [g2, if_neg (by omega)]
      exact ⟨by rw [e], rfl, by rw [e]; exact hT, ⟨fun c hc => hN.1 c hc, fun y hy => hN.2.1 y hy, hN.2.2⟩⟩
    · refine ok_aloadn (pc' := 108) i261_107 rfl rfl <| ok_bipush (v := 45) (pc' := 110) i261_108 rfl rfl <| ?_
      refine ok_cn0 (pc' := 113) (d0 := 0) i261_110 rfl (cl_v o261 m9_350 na262 rfl rfl (bt rfl) (bt rfl) rfl (by rw [ShModel_k0 hSO, o262])) ln262 (pd262 (aR O) (aI 45)) (by omega) (t262 (x1 := 45) hSO hT (by omega)) rfl (fun M3 p4 => ?_)
      obtain ⟨tt5, htt5⟩ : ∃ u9 : Tx, u9 = say t 45 := ⟨_, rfl⟩
      rw [← htt5] at p4
      have z61 : tt5.1 = t.1 + 1 := by rw [htt5]; rfl
      have hFM3 : RepO M3 O q s := RepO.fr hR9 ⟨p4.2.2 2 (by decide), p4.2.2 3 (by decide)⟩ (fun a h1 h2 => p4.2.1 a (by omega))
      refine ok_aloadn (pc' := 114) i261_113 rfl rfl <| ok_getfi (v := tt5.1) (pc' := 117) i261_114 o261 gi9_344 (ShModel_k0 hSO) p4.1.1 rfl <| ok_ireti i261_117 rt261 <| ?_
      have e : textR s = tt5 := by unfold textR; rw [g2, if_pos (by omega), htt5]
      exact ⟨by rw [e], rfl, by rw [e]; exact p4.1, ⟨fun c hc => (p4.2.1 c hc).trans (hN.1 c hc), fun y hy => (p4.2.2 y hy.1).trans (hN.2.1 y hy), (p4.2.2 0 (by decide)).trans (hN.2.2)⟩⟩
