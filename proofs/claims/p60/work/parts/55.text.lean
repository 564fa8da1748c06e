/-! TEXTS: the order; the reference (by program, wip/gen) -/
def txg (i : Int) : Int := (am_txt.getD 7 []).getD i.toNat 0
theorem sayW_gone {t : Tx} : sayW t txg 5 = goneX t := rfl
theorem goneX_1 {t : Tx} : (goneX t).1 = t.1 + 5 := by
  show t.1 + 1 + 1 + 1 + 1 + 1 = _
  omega
theorem o141 : am_oc 141 = 0 := by decide +kernel
theorem m0_180 : am_mlk 0 180 0 106 = true := by decide +kernel
theorem na106 : am_na 106 = 1 := by decide +kernel
theorem nl106 : am_nL 106 = 2 := by decide +kernel
theorem pd106 : ∀ a0 a1 : AV, am_pad 106 [a0, a1] = [a0, a1] := by intros; unfold am_pad; rw [nl106]; rfl
theorem ln106 : 2 ≤ am_nL 106 := by rw [nl106]; decide
theorem o106 : am_oc 106 = 0 := by decide +kernel
theorem rt106 : am_rt 106 = none := by decide +kernel
theorem pi141_280 : am_pfi 141 0 280 6 1 = true := by decide +kernel
theorem rt141 : am_rt 141 = some .int := by decide +kernel
theorem sr0_293 : (am_sr 0 293).map (fun q => q.2.1) = some 24 := by decide +kernel
theorem m0_295 : am_mlk 0 295 0 31 = true := by decide +kernel
theorem na31 : am_na 31 = 1 := by decide +kernel
theorem nl31 : am_nL 31 = 3 := by decide +kernel
theorem pd31 : ∀ a0 a1 : AV, am_pad 31 [a0, a1] = [a0, a1, aU] := by intros; unfold am_pad; rw [nl31]; rfl
theorem ln31 : 2 ≤ am_nL 31 := by rw [nl31]; decide
theorem t141 {g : AG} {M : AM} {Y P A V T K H X : Nat} {s q : Int → Int} {b x1 : Int} (hSY : ShYard g Y P A V T K H X) (hSA : ShState g A) (hSX : ShText g X) (hS24 : ShStr g 24 5) (hRA : RepS M A s) (hV : Val b q s) (hQ : ValQ q) (hG : ∀ i : Int, 0 ≤ i → i < 5 → M 25 i = txg i ∧ 0 ≤ txg i ∧ txg i < 128) (hx1 : 0 ≤ x1 ∧ x1 < s 4) (hXA : X + 2 ≤ A ∨ A + 24 ≤ X) (hX40 : 40 ≤ X) (hYd : M Y 6 = 1) :
    Ok 5 141 0 [aR Y, aI x1] [] g M (Rt (some (aI (textO s x1).1)) g (fun M9 => RepT M9 X (textO s x1) ∧ ∀ c, c ≠ X ∧ c ≠ X + 1 → M9 c = M c)) := by
  have ys3 : 0 ≤ s 3 ∧ s 3 ≤ 80 := V_3 hV
  have ys4 : 0 ≤ s 4 ∧ s 4 ≤ 16 := V_4 hV
  have yq0 : 0 ≤ q 0 ∧ q 0 ≤ 4 := Q_0 hQ
  have yq1 : 0 ≤ q 1 ∧ q 1 ≤ 6 := Q_1 hQ
  refine ok_aloadn (pc' := 1) i141_0 rfl rfl <| ok_cc i141_1 rfl (cl_v o141 m0_132 na99 rfl rfl (bt rfl) (bt rfl) rfl (by rw [ShYard_k0 hSY, o99])) ln99 (pd99 (aR Y)) <| ok_aloadn (pc' := 1) i99_0 rfl rfl <| ok_getfi (v := 1) (pc' := 4) i99_1 o99 gi0_268 (ShYard_k0 hSY) hYd rfl <| ok_kz1 (pc1 := 18) (pc2 := 7) i99_4 (by decide) rfl rfl <| ok_vret i99_18 rt99 <| kt_0 (pc' := 4) rfl <| ok_aloadn (pc' := 5) i141_4 rfl rfl <| ?_
  refine ok_iloadn (pc' := 6) i141_5 rfl rfl <| ok_cc i141_6 rfl (cl_v o141 m0_180 na106 rfl rfl (bt rfl) (bt rfl) rfl (by rw [ShYard_k0 hSY, o106])) ln106 (pd106 (aR Y) (aI x1)) <| ok_iloadn (pc' := 1) i106_0 rfl rfl <| ?_
  refine ok_zlt (pc1 := 15) (pc2 := 4) i106_1 (by omega) rfl rfl (fun h9 => by exfalso; omega) (fun h1 => ?_)
  refine ok_iloadn (pc' := 5) i106_4 rfl rfl <| ok_aloadn (pc' := 6) i106_5 rfl rfl <| ok_getfr (r := A) (pc' := 9) i106_6 o106 gr0_39 (ShYard_k0 hSY) (ShYard_r8 hSY) rfl <| ok_getfi (v := (s 4)) (pc' := 12) i106_9 o106 gi0_138 (ShState_k0 hSA) (RepS_f4 hRA) rfl <| ?_
  refine ok_clt (pc1 := 26) (pc2 := 15) i106_12 (by omega) rfl rfl (fun h2 => ?_) (fun h9 => by exfalso; omega)
  refine ok_vret i106_26 rt106 <| kt_0 (pc' := 9) rfl <| ok_aloadn (pc' := 10) i141_9 rfl rfl <| ok_getfr (r := X) (pc' := 13) i141_10 o141 gr0_86 (ShYard_k0 hSY) (ShYard_r15 hSY) rfl <| ok_iconst (pc' := 14) i141_13 rfl <| ok_putfi (pc' := 17) i141_14 o141 pi141_280 (ShText_k0 hSX) rfl <| ok_aloadn (pc' := 18) i141_17 rfl rfl <| ok_getfr (r := X) (pc' := 21) i141_18 o141 gr0_86 (ShYard_k0 hSY) (ShYard_r15 hSY) rfl <| ?_
  refine ok_aloadn (pc' := 22) i141_21 rfl rfl <| ok_getfr (r := A) (pc' := 25) i141_22 o141 gr0_39 (ShYard_k0 hSY) (ShYard_r8 hSY) rfl <| ok_getfr (r := (A + 8)) (pc' := 28) i141_25 o141 gr0_183 (ShState_k0 hSA) (ShState_r5 hSA) rfl <| ok_iconst (pc' := 29) i141_28 rfl <| ok_aaload (r := (A + 9)) (pc' := 30) i141_29 (ShState_k8 hSA) (by decide) (ShState_l8 hSA) (by decide) (ShState_e8_0 hSA) rfl <| ok_iloadn (pc' := 31) i141_30 rfl rfl <| ?_
  have z1 : 1 ≤ s (414 + (8 * x1)) ∧ s (414 + (8 * x1)) ≤ 200 := V_o0 hV (i := x1) (by omega) (by omega)
  refine ok_iaload (v := (s (414 + (8 * x1)))) (pc' := 32) i141_31 (ShState_k9 hSA) (by decide) (ShState_l9 hSA) (by omega) (rd_na (by omega) (RepS_9 hRA (by omega) (by omega))) rfl <| ?_
  obtain ⟨M8, hM8⟩ : ∃ u9 : AM, u9 = (up2 M X 1 0) := ⟨_, rfl⟩
  show Ok _ _ _ _ _ _ (up2 M X 1 0) _
  rw [← hM8]
  have hT8 : RepT M8 X t00 := ⟨by rw [hM8]; exact rd_eq, by decide, fun i h8 h9 => by have : i < 0 := h9; omega⟩
  have hN8 : ∀ c, c ≠ X ∧ c ≠ X + 1 → M8 c = M c := fun c hc => by rw [hM8, up2_na hc.1]
  have hR8 : RepS M8 A s := RepS.fr hRA (fun a h1 h2 => hN8 a (by omega))
  have z2 : t00.1 = 0 := rfl
  refine ok_cn0 (pc' := 35) (d0 := 1) i141_32 rfl (cl_v o141 m0_290 na30 rfl rfl (bt rfl) (bt rfl) rfl (by rw [ShText_k0 hSX, o30])) ln30 (pd30 (aR X) (aI (s (414 + (8 * x1))))) (by omega) (t30 (x1 := (s (414 + (8 * x1)))) hSX hT8 (by omega) (by omega)) rfl (fun M3 p4 => ?_)
  obtain ⟨tt5, htt5⟩ : ∃ u9 : Tx, u9 = sayN t00 (s (414 + (8 * x1))) := ⟨_, rfl⟩
  rw [← htt5] at p4
  have z3 : t00.1 + 1 ≤ tt5.1 ∧ tt5.1 ≤ t00.1 + 3 := by rw [htt5]; exact sayN_1
  have hFM3A : RepS M3 A s := RepS.fr hR8 (fun a h1 h2 => p4.2 a (by omega))
  refine ok_aloadn (pc' := 36) i141_35 rfl rfl <| ok_getfr (r := X) (pc' := 39) i141_36 o141 gr0_86 (ShYard_k0 hSY) (ShYard_r15 hSY) rfl <| ok_bipush (v := 120) (pc' := 41) i141_39 rfl rfl <| ?_
  refine ok_cn0 (pc' := 44) (d0 := 0) i141_41 rfl (cl_v o141 m0_286 na29 rfl rfl (bt rfl) (bt rfl) rfl (by rw [ShText_k0 hSX, o29])) ln29 (pd29 (aR X) (aI 120)) (by omega) (t29 (x1 := 120) hSX p4.1 (by omega) (by omega)) rfl (fun M6 p7 => ?_)
  obtain ⟨tt8, htt8⟩ : ∃ u9 : Tx, u9 = say tt5 120 := ⟨_, rfl⟩
  rw [← htt8] at p7
  have z4 : tt8.1 = tt5.1 + 1 := by rw [htt8]; rfl
  have hFM6A : RepS M6 A s := RepS.fr hFM3A (fun a h1 h2 => p7.2 a (by omega))
  refine ok_aloadn (pc' := 45) i141_44 rfl rfl <| ok_getfr (r := X) (pc' := 48) i141_45 o141 gr0_86 (ShYard_k0 hSY) (ShYard_r15 hSY) rfl <| ok_aloadn (pc' := 49) i141_48 rfl rfl <| ok_getfr (r := A) (pc' := 52) i141_49 o141 gr0_39 (ShYard_k0 hSY) (ShYard_r8 hSY) rfl <| ok_getfr (r := (A + 8)) (pc' := 55) i141_52 o141 gr0_183 (ShState_k0 hSA) (ShState_r5 hSA) rfl <| ok_iconst (pc' := 56) i141_55 rfl <| ok_aaload (r := (A + 10)) (pc' := 57) i141_56 (ShState_k8 hSA) (by decide) (ShState_l8 hSA) (by decide) (ShState_e8_1 hSA) rfl <| ok_iloadn (pc' := 58) i141_57 rfl rfl <| ?_
  have z5 : 1 ≤ s ((414 + (8 * x1)) + 1) ∧ s ((414 + (8 * x1)) + 1) ≤ 9 := V_o1 hV (i := x1) (by omega) (by omega)
  refine ok_iaload (v := (s ((414 + (8 * x1)) + 1))) (pc' := 59) i141_58 (ShState_k10 hSA) (by decide) (ShState_l10 hSA) (by omega) (RepS_10 hFM6A (by omega) (by omega)) rfl <| ?_
  refine ok_cn0 (pc' := 62) (d0 := 1) i141_59 rfl (cl_v o141 m0_290 na30 rfl rfl (bt rfl) (bt rfl) rfl (by rw [ShText_k0 hSX, o30])) ln30 (pd30 (aR X) (aI (s ((414 + (8 * x1)) + 1)))) (by omega) (t30 (x1 := (s ((414 + (8 * x1)) + 1))) hSX p7.1 (by omega) (by omega)) rfl (fun M9 p10 => ?_)
  obtain ⟨tt11, htt11⟩ : ∃ u9 : Tx, u9 = sayN tt8 (s ((414 + (8 * x1)) + 1)) := ⟨_, rfl⟩
  rw [← htt11] at p10
  have z6 : tt8.1 + 1 ≤ tt11.1 ∧ tt11.1 ≤ tt8.1 + 3 := by rw [htt11]; exact sayN_1
  have z7 : tt11.1 ≤ tt8.1 + 2 := by rw [htt11]; exact sayN_s (by omega)
  have hFM9A : RepS M9 A s := RepS.fr hFM6A (fun a h1 h2 => p10.2 a (by omega))
  refine ok_aloadn (pc' := 63) i141_62 rfl rfl <| ok_getfr (r := X) (pc' := 66) i141_63 o141 gr0_86 (ShYard_k0 hSY) (ShYard_r15 hSY) rfl <| ok_bipush (v := 32) (pc' := 68) i141_66 rfl rfl <| ?_
  refine ok_cn0 (pc' := 71) (d0 := 0) i141_68 rfl (cl_v o141 m0_286 na29 rfl rfl (bt rfl) (bt rfl) rfl (by rw [ShText_k0 hSX, o29])) ln29 (pd29 (aR X) (aI 32)) (by omega) (t29 (x1 := 32) hSX p10.1 (by omega) (by omega)) rfl (fun M12 p13 => ?_)
  obtain ⟨tt14, htt14⟩ : ∃ u9 : Tx, u9 = say tt11 32 := ⟨_, rfl⟩
  rw [← htt14] at p13
  have z8 : tt14.1 = tt11.1 + 1 := by rw [htt14]; rfl
  have hFM12A : RepS M12 A s := RepS.fr hFM9A (fun a h1 h2 => p13.2 a (by omega))
  refine ok_aloadn (pc' := 72) i141_71 rfl rfl <| ok_getfr (r := X) (pc' := 75) i141_72 o141 gr0_86 (ShYard_k0 hSY) (ShYard_r15 hSY) rfl <| ok_aloadn (pc' := 76) i141_75 rfl rfl <| ok_getfr (r := A) (pc' := 79) i141_76 o141 gr0_39 (ShYard_k0 hSY) (ShYard_r8 hSY) rfl <| ok_getfr (r := (A + 8)) (pc' := 82) i141_79 o141 gr0_183 (ShState_k0 hSA) (ShState_r5 hSA) rfl <| ok_iconst (pc' := 83) i141_82 rfl <| ok_aaload (r := (A + 14)) (pc' := 84) i141_83 (ShState_k8 hSA) (by decide) (ShState_l8 hSA) (by decide) (ShState_e8_5 hSA) rfl <| ok_iloadn (pc' := 85) i141_84 rfl rfl <| ?_
  have z9 : 0 ≤ s ((414 + (8 * x1)) + 5) ∧ s ((414 + (8 * x1)) + 5) ≤ 9 := V_o5 hV (i := x1) (by omega) (by omega)
  refine ok_iaload (v := (s ((414 + (8 * x1)) + 5))) (pc' := 86) i141_85 (ShState_k14 hSA) (by decide) (ShState_l14 hSA) (by omega) (RepS_14 hFM12A (by omega) (by omega)) rfl <| ?_
  refine ok_cn0 (pc' := 89) (d0 := 1) i141_86 rfl (cl_v o141 m0_290 na30 rfl rfl (bt rfl) (bt rfl) rfl (by rw [ShText_k0 hSX, o30])) ln30 (pd30 (aR X) (aI (s ((414 + (8 * x1)) + 5)))) (by omega) (t30 (x1 := (s ((414 + (8 * x1)) + 5))) hSX p13.1 (by omega) (by omega)) rfl (fun M15 p16 => ?_)
  obtain ⟨tt17, htt17⟩ : ∃ u9 : Tx, u9 = sayN tt14 (s ((414 + (8 * x1)) + 5)) := ⟨_, rfl⟩
  rw [← htt17] at p16
  have z10 : tt14.1 + 1 ≤ tt17.1 ∧ tt17.1 ≤ tt14.1 + 3 := by rw [htt17]; exact sayN_1
  have z11 : tt17.1 ≤ tt14.1 + 2 := by rw [htt17]; exact sayN_s (by omega)
  have hFM15A : RepS M15 A s := RepS.fr hFM12A (fun a h1 h2 => p16.2 a (by omega))
  refine ok_aloadn (pc' := 90) i141_89 rfl rfl <| ok_getfr (r := X) (pc' := 93) i141_90 o141 gr0_86 (ShYard_k0 hSY) (ShYard_r15 hSY) rfl <| ok_bipush (v := 43) (pc' := 95) i141_93 rfl rfl <| ?_
  refine ok_cn0 (pc' := 98) (d0 := 0) i141_95 rfl (cl_v o141 m0_286 na29 rfl rfl (bt rfl) (bt rfl) rfl (by rw [ShText_k0 hSX, o29])) ln29 (pd29 (aR X) (aI 43)) (by omega) (t29 (x1 := 43) hSX p16.1 (by omega) (by omega)) rfl (fun M18 p19 => ?_)
  obtain ⟨tt20, htt20⟩ : ∃ u9 : Tx, u9 = say tt17 43 := ⟨_, rfl⟩
  rw [← htt20] at p19
  have z12 : tt20.1 = tt17.1 + 1 := by rw [htt20]; rfl
  have hFM18A : RepS M18 A s := RepS.fr hFM15A (fun a h1 h2 => p19.2 a (by omega))
  refine ok_aloadn (pc' := 99) i141_98 rfl rfl <| ok_getfr (r := X) (pc' := 102) i141_99 o141 gr0_86 (ShYard_k0 hSY) (ShYard_r15 hSY) rfl <| ok_aloadn (pc' := 103) i141_102 rfl rfl <| ok_getfr (r := A) (pc' := 106) i141_103 o141 gr0_39 (ShYard_k0 hSY) (ShYard_r8 hSY) rfl <| ok_getfr (r := (A + 8)) (pc' := 109) i141_106 o141 gr0_183 (ShState_k0 hSA) (ShState_r5 hSA) rfl <| ok_bipush (v := 6) (pc' := 111) i141_109 rfl rfl <| ok_aaload (r := (A + 15)) (pc' := 112) i141_111 (ShState_k8 hSA) (by decide) (ShState_l8 hSA) (by decide) (ShState_e8_6 hSA) rfl <| ok_iloadn (pc' := 113) i141_112 rfl rfl <| ?_
  have z13 : 0 ≤ s ((414 + (8 * x1)) + 6) ∧ s ((414 + (8 * x1)) + 6) ≤ 9 := V_o6 hV (i := x1) (by omega) (by omega)
  refine ok_iaload (v := (s ((414 + (8 * x1)) + 6))) (pc' := 114) i141_113 (ShState_k15 hSA) (by decide) (ShState_l15 hSA) (by omega) (RepS_15 hFM18A (by omega) (by omega)) rfl <| ?_
  refine ok_cn0 (pc' := 117) (d0 := 1) i141_114 rfl (cl_v o141 m0_290 na30 rfl rfl (bt rfl) (bt rfl) rfl (by rw [ShText_k0 hSX, o30])) ln30 (pd30 (aR X) (aI (s ((414 + (8 * x1)) + 6)))) (by omega) (t30 (x1 := (s ((414 + (8 * x1)) + 6))) hSX p19.1 (by omega) (by omega)) rfl (fun M21 p22 => ?_)
  obtain ⟨tt23, htt23⟩ : ∃ u9 : Tx, u9 = sayN tt20 (s ((414 + (8 * x1)) + 6)) := ⟨_, rfl⟩
  rw [← htt23] at p22
  have z14 : tt20.1 + 1 ≤ tt23.1 ∧ tt23.1 ≤ tt20.1 + 3 := by rw [htt23]; exact sayN_1
  have z15 : tt23.1 ≤ tt20.1 + 2 := by rw [htt23]; exact sayN_s (by omega)
  have hFM21A : RepS M21 A s := RepS.fr hFM18A (fun a h1 h2 => p22.2 a (by omega))
  refine ok_aloadn (pc' := 118) i141_117 rfl rfl <| ok_getfr (r := X) (pc' := 121) i141_118 o141 gr0_86 (ShYard_k0 hSY) (ShYard_r15 hSY) rfl <| ok_bipush (v := 47) (pc' := 123) i141_121 rfl rfl <| ?_
  refine ok_cn0 (pc' := 126) (d0 := 0) i141_123 rfl (cl_v o141 m0_286 na29 rfl rfl (bt rfl) (bt rfl) rfl (by rw [ShText_k0 hSX, o29])) ln29 (pd29 (aR X) (aI 47)) (by omega) (t29 (x1 := 47) hSX p22.1 (by omega) (by omega)) rfl (fun M24 p25 => ?_)
  obtain ⟨tt26, htt26⟩ : ∃ u9 : Tx, u9 = say tt23 47 := ⟨_, rfl⟩
  rw [← htt26] at p25
  have z16 : tt26.1 = tt23.1 + 1 := by rw [htt26]; rfl
  have hFM24A : RepS M24 A s := RepS.fr hFM21A (fun a h1 h2 => p25.2 a (by omega))
  refine ok_aloadn (pc' := 127) i141_126 rfl rfl <| ok_getfr (r := X) (pc' := 130) i141_127 o141 gr0_86 (ShYard_k0 hSY) (ShYard_r15 hSY) rfl <| ok_aloadn (pc' := 131) i141_130 rfl rfl <| ok_getfr (r := A) (pc' := 134) i141_131 o141 gr0_39 (ShYard_k0 hSY) (ShYard_r8 hSY) rfl <| ok_getfr (r := (A + 8)) (pc' := 137) i141_134 o141 gr0_183 (ShState_k0 hSA) (ShState_r5 hSA) rfl <| ok_iconst (pc' := 138) i141_137 rfl <| ok_aaload (r := (A + 13)) (pc' := 139) i141_138 (ShState_k8 hSA) (by decide) (ShState_l8 hSA) (by decide) (ShState_e8_4 hSA) rfl <| ok_iloadn (pc' := 140) i141_139 rfl rfl <| ?_
  have z17 : 0 ≤ s ((414 + (8 * x1)) + 4) ∧ s ((414 + (8 * x1)) + 4) ≤ 9 := V_o4 hV (i := x1) (by omega) (by omega)
  refine ok_iaload (v := (s ((414 + (8 * x1)) + 4))) (pc' := 141) i141_140 (ShState_k13 hSA) (by decide) (ShState_l13 hSA) (by omega) (RepS_13 hFM24A (by omega) (by omega)) rfl <| ?_
  refine ok_cn0 (pc' := 144) (d0 := 1) i141_141 rfl (cl_v o141 m0_290 na30 rfl rfl (bt rfl) (bt rfl) rfl (by rw [ShText_k0 hSX, o30])) ln30 (pd30 (aR X) (aI (s ((414 + (8 * x1)) + 4)))) (by omega) (t30 (x1 := (s ((414 + (8 * x1)) + 4))) hSX p25.1 (by omega) (by omega)) rfl (fun M27 p28 => ?_)
  obtain ⟨tt29, htt29⟩ : ∃ u9 : Tx, u9 = sayN tt26 (s ((414 + (8 * x1)) + 4)) := ⟨_, rfl⟩
  rw [← htt29] at p28
  have z18 : tt26.1 + 1 ≤ tt29.1 ∧ tt29.1 ≤ tt26.1 + 3 := by rw [htt29]; exact sayN_1
  have z19 : tt29.1 ≤ tt26.1 + 2 := by rw [htt29]; exact sayN_s (by omega)
  have hFM27A : RepS M27 A s := RepS.fr hFM24A (fun a h1 h2 => p28.2 a (by omega))
  refine ok_aloadn (pc' := 145) i141_144 rfl rfl <| ok_getfr (r := X) (pc' := 148) i141_145 o141 gr0_86 (ShYard_k0 hSY) (ShYard_r15 hSY) rfl <| ok_bipush (v := 32) (pc' := 150) i141_148 rfl rfl <| ?_
  refine ok_cn0 (pc' := 153) (d0 := 0) i141_150 rfl (cl_v o141 m0_286 na29 rfl rfl (bt rfl) (bt rfl) rfl (by rw [ShText_k0 hSX, o29])) ln29 (pd29 (aR X) (aI 32)) (by omega) (t29 (x1 := 32) hSX p28.1 (by omega) (by omega)) rfl (fun M30 p31 => ?_)
  obtain ⟨tt32, htt32⟩ : ∃ u9 : Tx, u9 = say tt29 32 := ⟨_, rfl⟩
  rw [← htt32] at p31
  have z20 : tt32.1 = tt29.1 + 1 := by rw [htt32]; rfl
  have hFM30A : RepS M30 A s := RepS.fr hFM27A (fun a h1 h2 => p31.2 a (by omega))
  refine ok_aloadn (pc' := 154) i141_153 rfl rfl <| ok_getfr (r := X) (pc' := 157) i141_154 o141 gr0_86 (ShYard_k0 hSY) (ShYard_r15 hSY) rfl <| ok_bipush (v := 100) (pc' := 159) i141_157 rfl rfl <| ?_
  refine ok_cn0 (pc' := 162) (d0 := 0) i141_159 rfl (cl_v o141 m0_286 na29 rfl rfl (bt rfl) (bt rfl) rfl (by rw [ShText_k0 hSX, o29])) ln29 (pd29 (aR X) (aI 100)) (by omega) (t29 (x1 := 100) hSX p31.1 (by omega) (by omega)) rfl (fun M33 p34 => ?_)
  obtain ⟨tt35, htt35⟩ : ∃ u9 : Tx, u9 = say tt32 100 := ⟨_, rfl⟩
  rw [← htt35] at p34
  have z21 : tt35.1 = tt32.1 + 1 := by rw [htt35]; rfl
  have hFM33A : RepS M33 A s := RepS.fr hFM30A (fun a h1 h2 => p34.2 a (by omega))
  refine ok_aloadn (pc' := 163) i141_162 rfl rfl <| ok_getfr (r := X) (pc' := 166) i141_163 o141 gr0_86 (ShYard_k0 hSY) (ShYard_r15 hSY) rfl <| ok_aloadn (pc' := 167) i141_166 rfl rfl <| ok_getfr (r := A) (pc' := 170) i141_167 o141 gr0_39 (ShYard_k0 hSY) (ShYard_r8 hSY) rfl <| ok_getfr (r := (A + 8)) (pc' := 173) i141_170 o141 gr0_183 (ShState_k0 hSA) (ShState_r5 hSA) rfl <| ok_iconst (pc' := 174) i141_173 rfl <| ok_aaload (r := (A + 12)) (pc' := 175) i141_174 (ShState_k8 hSA) (by decide) (ShState_l8 hSA) (by decide) (ShState_e8_3 hSA) rfl <| ok_iloadn (pc' := 176) i141_175 rfl rfl <| ?_
  have z22 : 0 ≤ s ((414 + (8 * x1)) + 3) ∧ s ((414 + (8 * x1)) + 3) ≤ 999 := V_o3 hV (i := x1) (by omega) (by omega)
  refine ok_iaload (v := (s ((414 + (8 * x1)) + 3))) (pc' := 177) i141_176 (ShState_k12 hSA) (by decide) (ShState_l12 hSA) (by omega) (RepS_12 hFM33A (by omega) (by omega)) rfl <| ?_
  refine ok_cn0 (pc' := 180) (d0 := 1) i141_177 rfl (cl_v o141 m0_290 na30 rfl rfl (bt rfl) (bt rfl) rfl (by rw [ShText_k0 hSX, o30])) ln30 (pd30 (aR X) (aI (s ((414 + (8 * x1)) + 3)))) (by omega) (t30 (x1 := (s ((414 + (8 * x1)) + 3))) hSX p34.1 (by omega) (by omega)) rfl (fun M36 p37 => ?_)
  obtain ⟨tt38, htt38⟩ : ∃ u9 : Tx, u9 = sayN tt35 (s ((414 + (8 * x1)) + 3)) := ⟨_, rfl⟩
  rw [← htt38] at p37
  have z23 : tt35.1 + 1 ≤ tt38.1 ∧ tt38.1 ≤ tt35.1 + 3 := by rw [htt38]; exact sayN_1
  have hFM36A : RepS M36 A s := RepS.fr hFM33A (fun a h1 h2 => p37.2 a (by omega))
  refine ok_aloadn (pc' := 181) i141_180 rfl rfl <| ok_getfr (r := A) (pc' := 184) i141_181 o141 gr0_39 (ShYard_k0 hSY) (ShYard_r8 hSY) rfl <| ok_getfr (r := (A + 8)) (pc' := 187) i141_184 o141 gr0_183 (ShState_k0 hSA) (ShState_r5 hSA) rfl <| ok_bipush (v := 7) (pc' := 189) i141_187 rfl rfl <| ok_aaload (r := (A + 16)) (pc' := 190) i141_189 (ShState_k8 hSA) (by decide) (ShState_l8 hSA) (by decide) (ShState_e8_7 hSA) rfl <| ok_iloadn (pc' := 191) i141_190 rfl rfl <| ?_
  have z24 : 0 ≤ s ((414 + (8 * x1)) + 7) ∧ s ((414 + (8 * x1)) + 7) ≤ 1 := V_o7 hV (i := x1) (by omega) (by omega)
  refine ok_iaload (v := (s ((414 + (8 * x1)) + 7))) (pc' := 192) i141_191 (ShState_k16 hSA) (by decide) (ShState_l16 hSA) (by omega) (RepS_16 hFM36A (by omega) (by omega)) rfl <| ok_iconst (pc' := 193) i141_192 rfl <| ?_
  refine ok_cne (pc1 := 206) (pc2 := 196) i141_193 (by omega) rfl rfl (fun h39 => ?_) (fun h39 => ?_)
  · refine ok_aloadn (pc' := 207) i141_206 rfl rfl <| ok_getfr (r := X) (pc' := 210) i141_207 o141 gr0_86 (ShYard_k0 hSY) (ShYard_r15 hSY) rfl <| ok_getfi (v := tt38.1) (pc' := 213) i141_210 o141 gi0_280 (ShText_k0 hSX) p37.1.1 rfl <| ok_ireti i141_213 rt141 <| ?_
    have e : textO s x1 = tt38 := by rw [htt38, htt35, htt32, htt29, htt26, htt23, htt20, htt17, htt14, htt11, htt8, htt5]; unfold textO; rw [if_neg (by omega)]; rfl
    exact ⟨by rw [e], rfl, by rw [e]; exact p37.1, fun c hc => ((((((((((((p37.2 c hc).trans (p34.2 c hc)).trans (p31.2 c hc)).trans (p28.2 c hc)).trans (p25.2 c hc)).trans (p22.2 c hc)).trans (p19.2 c hc)).trans (p16.2 c hc)).trans (p13.2 c hc)).trans (p10.2 c hc)).trans (p7.2 c hc)).trans (p4.2 c hc)).trans (hN8 c hc)⟩
  · refine ok_aloadn (pc' := 197) i141_196 rfl rfl <| ok_getfr (r := X) (pc' := 200) i141_197 o141 gr0_86 (ShYard_k0 hSY) (ShYard_r15 hSY) rfl <| ok_ldws (pc' := 203) i141_200 o141 sr0_293 rfl <| ?_
    refine ok_cn0 (pc' := 206) (d0 := 4) i141_203 rfl (cl_v o141 m0_295 na31 rfl rfl (bt rfl) (bt rfl) rfl (by rw [ShText_k0 hSX, o31])) ln31 (pd31 (aR X) (aR 24)) (by omega) (t31 (n := 5) (tx := txg) hSX hS24 (by decide) (fun i h8 h9 => by rw [show M36 25 = M 25 from ((((((((((((p37.2 25 (by omega)).trans (p34.2 25 (by omega))).trans (p31.2 25 (by omega))).trans (p28.2 25 (by omega))).trans (p25.2 25 (by omega))).trans (p22.2 25 (by omega))).trans (p19.2 25 (by omega))).trans (p16.2 25 (by omega))).trans (p13.2 25 (by omega))).trans (p10.2 25 (by omega))).trans (p7.2 25 (by omega))).trans (p4.2 25 (by omega))).trans (hN8 25 (by omega))]; exact hG i h8 h9) (by omega) p37.1 (by omega)) rfl (fun M40 p41 => ?_)
    rw [sayW_gone] at p41
    obtain ⟨tt42, htt42⟩ : ∃ u9 : Tx, u9 = goneX tt38 := ⟨_, rfl⟩
    rw [← htt42] at p41
    have z25 : tt42.1 = tt38.1 + 5 := by rw [htt42]; exact goneX_1
    refine ok_aloadn (pc' := 207) i141_206 rfl rfl <| ok_getfr (r := X) (pc' := 210) i141_207 o141 gr0_86 (ShYard_k0 hSY) (ShYard_r15 hSY) rfl <| ok_getfi (v := tt42.1) (pc' := 213) i141_210 o141 gi0_280 (ShText_k0 hSX) p41.1.1 rfl <| ok_ireti i141_213 rt141 <| ?_
    have e : textO s x1 = tt42 := by rw [htt42, htt38, htt35, htt32, htt29, htt26, htt23, htt20, htt17, htt14, htt11, htt8, htt5]; unfold textO; rw [if_pos (by omega)]; rfl
    exact ⟨by rw [e], rfl, by rw [e]; exact p41.1, fun c hc => (((((((((((((p41.2 c hc).trans (p37.2 c hc)).trans (p34.2 c hc)).trans (p31.2 c hc)).trans (p28.2 c hc)).trans (p25.2 c hc)).trans (p22.2 c hc)).trans (p19.2 c hc)).trans (p16.2 c hc)).trans (p13.2 c hc)).trans (p10.2 c hc)).trans (p7.2 c hc)).trans (p4.2 c hc)).trans (hN8 c hc)⟩
