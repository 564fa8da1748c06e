/-! TEXTS: the class (by program, wip/gen) -/
def t00 : Tx := (0, fun _ => 0)
def rodX (s : Int → Int) (t : Tx) (r : Int) : Tx := if s (334 + r) = 1 then say (sayN (say (sayN (if 0 < t.1 then say t 44 else t) r) 58) (s (94 + r))) 42 else sayN (say (sayN (if 0 < t.1 then say t 44 else t) r) 58) (s (94 + r))
def rodsX (s : Int → Int) (r : Int) (t : Tx) : Tx := if s (174 + r) = 0 then rodX s t r else t
def textR (s : Int → Int) : Tx := if (itv (rodsX s) t00 0 (s 3).toNat).1 ≤ 0 then say (itv (rodsX s) t00 0 (s 3).toNat) 45 else itv (rodsX s) t00 0 (s 3).toNat
def sayW (t : Tx) (tx : Int → Int) (n : Nat) : Tx := itv (fun i t => say t (tx i)) t 0 n
def ordX (s : Int → Int) (o : Int) : Tx := sayN (say (say (sayN (say (sayN (say (sayN (say (sayN (say (sayN t00 (s (414 + (8 * o)))) 120) (s ((414 + (8 * o)) + 1))) 32) (s ((414 + (8 * o)) + 5))) 43) (s ((414 + (8 * o)) + 6))) 47) (s ((414 + (8 * o)) + 4))) 32) 100) (s ((414 + (8 * o)) + 3))
def goneX (t : Tx) : Tx := say (say (say (say (say t 32) 103) 111) 110) 101
def textO (s : Int → Int) (o : Int) : Tx := if s ((414 + (8 * o)) + 7) = 1 then goneX (ordX s o) else ordX s o
theorem sayN_s {t : Tx} {v : Int} (hv : v ≤ 99) : (sayN t v).1 ≤ t.1 + 2 := by
  unfold sayN
  split
  · show t.1 + 1 ≤ t.1 + 2; omega
  · rw [if_pos (by omega)]
    show t.1 + 1 + 1 ≤ t.1 + 2; omega
theorem gr0_86 : am_gfr 0 86 0 15 = true := by decide +kernel
theorem o140 : am_oc 140 = 0 := by decide +kernel
theorem gi0_280 : am_gfi 0 280 6 1 = true := by decide +kernel
theorem m0_290 : am_mlk 0 290 0 30 = true := by decide +kernel
theorem na30 : am_na 30 = 1 := by decide +kernel
theorem nl30 : am_nL 30 = 3 := by decide +kernel
theorem pd30 : ∀ a0 a1 : AV, am_pad 30 [a0, a1] = [a0, a1, aU] := by intros; unfold am_pad; rw [nl30]; rfl
theorem ln30 : 2 ≤ am_nL 30 := by rw [nl30]; decide
theorem m0_286 : am_mlk 0 286 0 29 = true := by decide +kernel
theorem rt140 : am_rt 140 = none := by decide +kernel
theorem o139 : am_oc 139 = 0 := by decide +kernel
theorem pi139_280 : am_pfi 139 0 280 6 1 = true := by decide +kernel
theorem m0_283 : am_mlk 0 283 0 140 = true := by decide +kernel
theorem na140 : am_na 140 = 1 := by decide +kernel
theorem nl140 : am_nL 140 = 2 := by decide +kernel
theorem pd140 : ∀ a0 a1 : AV, am_pad 140 [a0, a1] = [a0, a1] := by intros; unfold am_pad; rw [nl140]; rfl
theorem ln140 : 2 ≤ am_nL 140 := by rw [nl140]; decide
theorem rt139 : am_rt 139 = some .int := by decide +kernel
theorem o31 : am_oc 31 = 6 := by decide +kernel
theorem m6_19 : am_mlk 6 19 0 1 = true := by decide +kernel
theorem na1 : am_na 1 = 0 := by decide +kernel
theorem nl1 : am_nL 1 = 1 := by decide +kernel
theorem pd1 : ∀ a0 : AV, am_pad 1 [a0] = [a0] := by intros; unfold am_pad; rw [nl1]; rfl
theorem ln1 : 1 ≤ am_nL 1 := by rw [nl1]; decide
theorem m6_25 : am_mlk 6 25 0 2 = true := by decide +kernel
theorem na2 : am_na 2 = 1 := by decide +kernel
theorem nl2 : am_nL 2 = 2 := by decide +kernel
theorem pd2 : ∀ a0 a1 : AV, am_pad 2 [a0, a1] = [a0, a1] := by intros; unfold am_pad; rw [nl2]; rfl
theorem ln2 : 2 ≤ am_nL 2 := by rw [nl2]; decide
theorem rt31 : am_rt 31 = none := by decide +kernel
theorem t140 {g : AG} {M : AM} {Y P A V T K H X : Nat} {s q : Int → Int} {b : Int} {t : Tx} {x1 : Int} (hSY : ShYard g Y P A V T K H X) (hSA : ShState g A) (hSX : ShText g X) (hRA : RepS M A s) (hV : Val b q s) (hQ : ValQ q) (hXA : X + 2 ≤ A ∨ A + 24 ≤ X) (h40 : s 3 ≤ 40) (hT : RepT M X t) (hx1 : 0 ≤ x1 ∧ x1 < s 3) (ht2 : t.1 + 9 ≤ 321) :
    Ok 2 140 0 [aR Y, aI x1] [] g M (Rt none g (fun M9 => RepT M9 X (rodX s t x1) ∧ ∀ c, c ≠ X ∧ c ≠ X + 1 → M9 c = M c)) := by
  have ht := hT.2.1
  have ys3 : 0 ≤ s 3 ∧ s 3 ≤ 80 := V_3 hV
  have ys4 : 0 ≤ s 4 ∧ s 4 ≤ 16 := V_4 hV
  have yq0 : 0 ≤ q 0 ∧ q 0 ≤ 4 := Q_0 hQ
  have yq1 : 0 ≤ q 1 ∧ q 1 ≤ 6 := Q_1 hQ
  refine ok_aloadn (pc' := 1) i140_0 rfl rfl <| ok_getfr (r := X) (pc' := 4) i140_1 o140 gr0_86 (ShYard_k0 hSY) (ShYard_r15 hSY) rfl <| ok_getfi (v := t.1) (pc' := 7) i140_4 o140 gi0_280 (ShText_k0 hSX) hT.1 rfl <| ?_
  refine ok_zle (pc1 := 19) (pc2 := 10) i140_7 (by omega) rfl rfl (fun h1 => ?_) (fun h1 => ?_)
  · refine ok_aloadn (pc' := 20) i140_19 rfl rfl <| ok_getfr (r := X) (pc' := 23) i140_20 o140 gr0_86 (ShYard_k0 hSY) (ShYard_r15 hSY) rfl <| ok_iloadn (pc' := 24) i140_23 rfl rfl <| ?_
    refine ok_cn0 (pc' := 27) (d0 := 1) i140_24 rfl (cl_v o140 m0_290 na30 rfl rfl (bt rfl) (bt rfl) rfl (by rw [ShText_k0 hSX, o30])) ln30 (pd30 (aR X) (aI x1)) (by omega) (t30 (x1 := x1) hSX hT (by omega) (by omega)) rfl (fun M2 p3 => ?_)
    obtain ⟨t4, ht4⟩ : ∃ u9 : Tx, u9 = sayN t x1 := ⟨_, rfl⟩
    rw [← ht4] at p3
    have z1 : t.1 + 1 ≤ t4.1 ∧ t4.1 ≤ t.1 + 3 := by rw [ht4]; exact sayN_1
    have z2 : t4.1 ≤ t.1 + 2 := by rw [ht4]; exact sayN_s (by omega)
    have hFM2A : RepS M2 A s := RepS.fr hRA (fun a h1 h2 => p3.2 a (by omega))
    refine ok_aloadn (pc' := 28) i140_27 rfl rfl <| ok_getfr (r := X) (pc' := 31) i140_28 o140 gr0_86 (ShYard_k0 hSY) (ShYard_r15 hSY) rfl <| ok_bipush (v := 58) (pc' := 33) i140_31 rfl rfl <| ?_
    refine ok_cn0 (pc' := 36) (d0 := 0) i140_33 rfl (cl_v o140 m0_286 na29 rfl rfl (bt rfl) (bt rfl) rfl (by rw [ShText_k0 hSX, o29])) ln29 (pd29 (aR X) (aI 58)) (by omega) (t29 (x1 := 58) hSX p3.1 (by omega) (by omega)) rfl (fun M5 p6 => ?_)
    obtain ⟨t7, ht7⟩ : ∃ u9 : Tx, u9 = say t4 58 := ⟨_, rfl⟩
    rw [← ht7] at p6
    have z3 : t7.1 = t4.1 + 1 := by rw [ht7]; rfl
    have hFM5A : RepS M5 A s := RepS.fr hFM2A (fun a h1 h2 => p6.2 a (by omega))
    refine ok_aloadn (pc' := 37) i140_36 rfl rfl <| ok_getfr (r := X) (pc' := 40) i140_37 o140 gr0_86 (ShYard_k0 hSY) (ShYard_r15 hSY) rfl <| ok_aloadn (pc' := 41) i140_40 rfl rfl <| ok_getfr (r := A) (pc' := 44) i140_41 o140 gr0_39 (ShYard_k0 hSY) (ShYard_r8 hSY) rfl <| ok_getfr (r := (A + 2)) (pc' := 47) i140_44 o140 gr0_176 (ShState_k0 hSA) (ShState_r3 hSA) rfl <| ok_iconst (pc' := 48) i140_47 rfl <| ok_aaload (r := (A + 4)) (pc' := 49) i140_48 (ShState_k2 hSA) (by decide) (ShState_l2 hSA) (by decide) (ShState_e2_1 hSA) rfl <| ok_iloadn (pc' := 50) i140_49 rfl rfl <| ?_
    have z4 : 0 ≤ s (94 + x1) ∧ s (94 + x1) ≤ 200 := V_d1 hV (i := x1) (by omega) (by omega)
    refine ok_iaload (v := (s (94 + x1))) (pc' := 51) i140_50 (ShState_k4 hSA) (by decide) (ShState_l4 hSA) (by omega) (RepS_4 hFM5A (by omega) (by omega)) rfl <| ?_
    refine ok_cn0 (pc' := 54) (d0 := 1) i140_51 rfl (cl_v o140 m0_290 na30 rfl rfl (bt rfl) (bt rfl) rfl (by rw [ShText_k0 hSX, o30])) ln30 (pd30 (aR X) (aI (s (94 + x1)))) (by omega) (t30 (x1 := (s (94 + x1))) hSX p6.1 (by omega) (by omega)) rfl (fun M8 p9 => ?_)
    obtain ⟨t10, ht10⟩ : ∃ u9 : Tx, u9 = sayN t7 (s (94 + x1)) := ⟨_, rfl⟩
    rw [← ht10] at p9
    have z5 : t7.1 + 1 ≤ t10.1 ∧ t10.1 ≤ t7.1 + 3 := by rw [ht10]; exact sayN_1
    have hFM8A : RepS M8 A s := RepS.fr hFM5A (fun a h1 h2 => p9.2 a (by omega))
    refine ok_aloadn (pc' := 55) i140_54 rfl rfl <| ok_getfr (r := A) (pc' := 58) i140_55 o140 gr0_39 (ShYard_k0 hSY) (ShYard_r8 hSY) rfl <| ok_getfr (r := (A + 2)) (pc' := 61) i140_58 o140 gr0_176 (ShState_k0 hSA) (ShState_r3 hSA) rfl <| ok_iconst (pc' := 62) i140_61 rfl <| ok_aaload (r := (A + 7)) (pc' := 63) i140_62 (ShState_k2 hSA) (by decide) (ShState_l2 hSA) (by decide) (ShState_e2_4 hSA) rfl <| ok_iloadn (pc' := 64) i140_63 rfl rfl <| ?_
    have z6 : 0 ≤ s (334 + x1) ∧ s (334 + x1) ≤ 1 := V_d4 hV (i := x1) (by omega) (by omega)
    refine ok_iaload (v := (s (334 + x1))) (pc' := 65) i140_64 (ShState_k7 hSA) (by decide) (ShState_l7 hSA) (by omega) (RepS_7 hFM8A (by omega) (by omega)) rfl <| ok_iconst (pc' := 66) i140_65 rfl <| ?_
    refine ok_cne (pc1 := 78) (pc2 := 69) i140_66 (by omega) rfl rfl (fun h11 => ?_) (fun h11 => ?_)
    · refine ok_vret i140_78 rt140 <| ?_
      have e : rodX s t x1 = t10 := by rw [ht10, ht7, ht4]; unfold rodX; rw [if_neg (show ¬ (s (334 + x1) = 1) by omega), if_neg (show ¬ (0 < t.1) by omega)]
      exact ⟨rfl, rfl, by rw [e]; exact p9.1, fun c hc => ((p9.2 c hc).trans (p6.2 c hc)).trans (p3.2 c hc)⟩
    · refine ok_aloadn (pc' := 70) i140_69 rfl rfl <| ok_getfr (r := X) (pc' := 73) i140_70 o140 gr0_86 (ShYard_k0 hSY) (ShYard_r15 hSY) rfl <| ok_bipush (v := 42) (pc' := 75) i140_73 rfl rfl <| ?_
      refine ok_cn0 (pc' := 78) (d0 := 0) i140_75 rfl (cl_v o140 m0_286 na29 rfl rfl (bt rfl) (bt rfl) rfl (by rw [ShText_k0 hSX, o29])) ln29 (pd29 (aR X) (aI 42)) (by omega) (t29 (x1 := 42) hSX p9.1 (by omega) (by omega)) rfl (fun M12 p13 => ?_)
      obtain ⟨t14, ht14⟩ : ∃ u9 : Tx, u9 = say t10 42 := ⟨_, rfl⟩
      rw [← ht14] at p13
      have z7 : t14.1 = t10.1 + 1 := by rw [ht14]; rfl
      have hFM12A : RepS M12 A s := RepS.fr hFM8A (fun a h1 h2 => p13.2 a (by omega))
      refine ok_vret i140_78 rt140 <| ?_
      have e : rodX s t x1 = t14 := by rw [ht14, ht10, ht7, ht4]; unfold rodX; rw [if_pos (show s (334 + x1) = 1 by omega), if_neg (show ¬ (0 < t.1) by omega)]
      exact ⟨rfl, rfl, by rw [e]; exact p13.1, fun c hc => (((p13.2 c hc).trans (p9.2 c hc)).trans (p6.2 c hc)).trans (p3.2 c hc)⟩
  · refine ok_aloadn (pc' := 11) i140_10 rfl rfl <| ok_getfr (r := X) (pc' := 14) i140_11 o140 gr0_86 (ShYard_k0 hSY) (ShYard_r15 hSY) rfl <| ok_bipush (v := 44) (pc' := 16) i140_14 rfl rfl <| ?_
    refine ok_cn0 (pc' := 19) (d0 := 0) i140_16 rfl (cl_v o140 m0_286 na29 rfl rfl (bt rfl) (bt rfl) rfl (by rw [ShText_k0 hSX, o29])) ln29 (pd29 (aR X) (aI 44)) (by omega) (t29 (x1 := 44) hSX hT (by omega) (by omega)) rfl (fun M15 p16 => ?_)
    obtain ⟨t17, ht17⟩ : ∃ u9 : Tx, u9 = say t 44 := ⟨_, rfl⟩
    rw [← ht17] at p16
    have z8 : t17.1 = t.1 + 1 := by rw [ht17]; rfl
    have hFM15A : RepS M15 A s := RepS.fr hRA (fun a h1 h2 => p16.2 a (by omega))
    refine ok_aloadn (pc' := 20) i140_19 rfl rfl <| ok_getfr (r := X) (pc' := 23) i140_20 o140 gr0_86 (ShYard_k0 hSY) (ShYard_r15 hSY) rfl <| ok_iloadn (pc' := 24) i140_23 rfl rfl <| ?_
    refine ok_cn0 (pc' := 27) (d0 := 1) i140_24 rfl (cl_v o140 m0_290 na30 rfl rfl (bt rfl) (bt rfl) rfl (by rw [ShText_k0 hSX, o30])) ln30 (pd30 (aR X) (aI x1)) (by omega) (t30 (x1 := x1) hSX p16.1 (by omega) (by omega)) rfl (fun M18 p19 => ?_)
    obtain ⟨t20, ht20⟩ : ∃ u9 : Tx, u9 = sayN t17 x1 := ⟨_, rfl⟩
    rw [← ht20] at p19
    have z9 : t17.1 + 1 ≤ t20.1 ∧ t20.1 ≤ t17.1 + 3 := by rw [ht20]; exact sayN_1
    have z10 : t20.1 ≤ t17.1 + 2 := by rw [ht20]; exact sayN_s (by omega)
    have hFM18A : RepS M18 A s := RepS.fr hFM15A (fun a h1 h2 => p19.2 a (by omega))
    refine ok_aloadn (pc' := 28) i140_27 rfl rfl <| ok_getfr (r := X) (pc' := 31) i140_28 o140 gr0_86 (ShYard_k0 hSY) (ShYard_r15 hSY) rfl <| ok_bipush (v := 58) (pc' := 33) i140_31 rfl rfl <| ?_
    refine ok_cn0 (pc' := 36) (d0 := 0) i140_33 rfl (cl_v o140 m0_286 na29 rfl rfl (bt rfl) (bt rfl) rfl (by rw [ShText_k0 hSX, o29])) ln29 (pd29 (aR X) (aI 58)) (by omega) (t29 (x1 := 58) hSX p19.1 (by omega) (by omega)) rfl (fun M21 p22 => ?_)
    obtain ⟨t23, ht23⟩ : ∃ u9 : Tx, u9 = say t20 58 := ⟨_, rfl⟩
    rw [← ht23] at p22
    have z11 : t23.1 = t20.1 + 1 := by rw [ht23]; rfl
    have hFM21A : RepS M21 A s := RepS.fr hFM18A (fun a h1 h2 => p22.2 a (by omega))
    refine ok_aloadn (pc' := 37) i140_36 rfl rfl <| ok_getfr (r := X) (pc' := 40) i140_37 o140 gr0_86 (ShYard_k0 hSY) (ShYard_r15 hSY) rfl <| ok_aloadn (pc' := 41) i140_40 rfl rfl <| ok_getfr (r := A) (pc' := 44) i140_41 o140 gr0_39 (ShYard_k0 hSY) (ShYard_r8 hSY) rfl <| ok_getfr (r := (A + 2)) (pc' := 47) i140_44 o140 gr0_176 (ShState_k0 hSA) (ShState_r3 hSA) rfl <| ok_iconst (pc' := 48) i140_47 rfl <| ok_aaload (r := (A + 4)) (pc' := 49) i140_48 (ShState_k2 hSA) (by decide) (ShState_l2 hSA) (by decide) (ShState_e2_1 hSA) rfl <| ok_iloadn (pc' := 50) i140_49 rfl rfl <| ?_
    have z12 : 0 ≤ s (94 + x1) ∧ s (94 + x1) ≤ 200 := V_d1 hV (i := x1) (by omega) (by omega)
    refine ok_iaload (v := (s (94 + x1))) (pc' := 51) i140_50 (ShState_k4 hSA) (by decide) (ShState_l4 hSA) (by omega) (RepS_4 hFM21A (by omega) (by omega)) rfl <| ?_
    refine ok_cn0 (pc' := 54) (d0 := 1) i140_51 rfl (cl_v o140 m0_290 na30 rfl rfl (bt rfl) (bt rfl) rfl (by rw [ShText_k0 hSX, o30])) ln30 (pd30 (aR X) (aI (s (94 + x1)))) (by omega) (t30 (x1 := (s (94 + x1))) hSX p22.1 (by omega) (by omega)) rfl (fun M24 p25 => ?_)
    obtain ⟨t26, ht26⟩ : ∃ u9 : Tx, u9 = sayN t23 (s (94 + x1)) := ⟨_, rfl⟩
    rw [← ht26] at p25
    have z13 : t23.1 + 1 ≤ t26.1 ∧ t26.1 ≤ t23.1 + 3 := by rw [ht26]; exact sayN_1
    have hFM24A : RepS M24 A s := RepS.fr hFM21A (fun a h1 h2 => p25.2 a (by omega))
    refine ok_aloadn (pc' := 55) i140_54 rfl rfl <| ok_getfr (r := A) (pc' := 58) i140_55 o140 gr0_39 (ShYard_k0 hSY) (ShYard_r8 hSY) rfl <| ok_getfr (r := (A + 2)) (pc' := 61) i140_58 o140 gr0_176 (ShState_k0 hSA) (ShState_r3 hSA) rfl <| ok_iconst (pc' := 62) i140_61 rfl <| ok_aaload (r := (A + 7)) (pc' := 63) i140_62 (ShState_k2 hSA) (by decide) (ShState_l2 hSA) (by decide) (ShState_e2_4 hSA) rfl <| ok_iloadn (pc' := 64) i140_63 rfl rfl <| ?_
    have z14 : 0 ≤ s (334 + x1) ∧ s (334 + x1) ≤ 1 := V_d4 hV (i := x1) (by omega) (by omega)
    refine ok_iaload (v := (s (334 + x1))) (pc' := 65) i140_64 (ShState_k7 hSA) (by decide) (ShState_l7 hSA) (by omega) (RepS_7 hFM24A (by omega) (by omega)) rfl <| ok_iconst (pc' := 66) i140_65 rfl <| ?_
    refine ok_cne (pc1 := 78) (pc2 := 69) i140_66 (by omega) rfl rfl (fun h27 => ?_) (fun h27 => ?_)
    · refine ok_vret i140_78 rt140 <| ?_
      have e : rodX s t x1 = t26 := by rw [ht26, ht23, ht20, ht17]; unfold rodX; rw [if_neg (show ¬ (s (334 + x1) = 1) by omega), if_pos (show 0 < t.1 by omega)]
      exact ⟨rfl, rfl, by rw [e]; exact p25.1, fun c hc => (((p25.2 c hc).trans (p22.2 c hc)).trans (p19.2 c hc)).trans (p16.2 c hc)⟩
    · refine ok_aloadn (pc' := 70) i140_69 rfl rfl <| ok_getfr (r := X) (pc' := 73) i140_70 o140 gr0_86 (ShYard_k0 hSY) (ShYard_r15 hSY) rfl <| ok_bipush (v := 42) (pc' := 75) i140_73 rfl rfl <| ?_
      refine ok_cn0 (pc' := 78) (d0 := 0) i140_75 rfl (cl_v o140 m0_286 na29 rfl rfl (bt rfl) (bt rfl) rfl (by rw [ShText_k0 hSX, o29])) ln29 (pd29 (aR X) (aI 42)) (by omega) (t29 (x1 := 42) hSX p25.1 (by omega) (by omega)) rfl (fun M28 p29 => ?_)
      obtain ⟨t30, ht30⟩ : ∃ u9 : Tx, u9 = say t26 42 := ⟨_, rfl⟩
      rw [← ht30] at p29
      have z15 : t30.1 = t26.1 + 1 := by rw [ht30]; rfl
      have hFM28A : RepS M28 A s := RepS.fr hFM24A (fun a h1 h2 => p29.2 a (by omega))
      refine ok_vret i140_78 rt140 <| ?_
      have e : rodX s t x1 = t30 := by rw [ht30, ht26, ht23, ht20, ht17]; unfold rodX; rw [if_pos (show s (334 + x1) = 1 by omega), if_pos (show 0 < t.1 by omega)]
      exact ⟨rfl, rfl, by rw [e]; exact p29.1, fun c hc => ((((p29.2 c hc).trans (p25.2 c hc)).trans (p22.2 c hc)).trans (p19.2 c hc)).trans (p16.2 c hc)⟩
theorem rodX_1 {s : Int → Int} {t : Tx} {r : Int} (h : 0 ≤ t.1) : t.1 + 1 ≤ (rodX s t r).1 ∧ (rodX s t r).1 ≤ t.1 + 9 := by
  have h1 : ∀ a : Tx, a.1 + 1 ≤ (sayN (say (sayN a r) 58) (s (94 + r))).1 ∧ (sayN (say (sayN a r) 58) (s (94 + r))).1 ≤ a.1 + 7 := by
    intro a
    have g1 := sayN_1 (t := a) (v := r)
    have g2 := sayN_1 (t := say (sayN a r) 58) (v := s (94 + r))
    have g3 : (say (sayN a r) 58).1 = (sayN a r).1 + 1 := rfl
    omega
  have h2 : t.1 ≤ (if 0 < t.1 then say t 44 else t).1 ∧ (if 0 < t.1 then say t 44 else t).1 ≤ t.1 + 1 := by
    split
    · show t.1 ≤ t.1 + 1 ∧ t.1 + 1 ≤ t.1 + 1; omega
    · omega
  have h3 := h1 (if 0 < t.1 then say t 44 else t)
  unfold rodX
  split
  · show _ ≤ (sayN (say (sayN _ r) 58) (s (94 + r))).1 + 1 ∧ (sayN (say (sayN _ r) 58) (s (94 + r))).1 + 1 ≤ _
    omega
  · omega
theorem rodX_8 {s : Int → Int} {t : Tx} {r : Int} (h : 0 ≤ t.1) (hr : r ≤ 99) : (rodX s t r).1 ≤ t.1 + 8 := by
  have h1 : ∀ a : Tx, (sayN (say (sayN a r) 58) (s (94 + r))).1 ≤ a.1 + 6 := by
    intro a
    have g1 := sayN_s (t := a) (v := r) hr
    have g2 := sayN_1 (t := say (sayN a r) 58) (v := s (94 + r))
    have g3 : (say (sayN a r) 58).1 = (sayN a r).1 + 1 := rfl
    omega
  have h2 : (if 0 < t.1 then say t 44 else t).1 ≤ t.1 + 1 := by
    split
    · show t.1 + 1 ≤ t.1 + 1; omega
    · omega
  have h3 := h1 (if 0 < t.1 then say t 44 else t)
  unfold rodX
  split
  · show (sayN (say (sayN _ r) 58) (s (94 + r))).1 + 1 ≤ _
    omega
  · omega
theorem t139 {g : AG} {M : AM} {Y P A V T K H X : Nat} {s q : Int → Int} {b : Int} (hSY : ShYard g Y P A V T K H X) (hSA : ShState g A) (hSX : ShText g X) (hRA : RepS M A s) (hV : Val b q s) (hQ : ValQ q) (hXA : X + 2 ≤ A ∨ A + 24 ≤ X) (h40 : s 3 ≤ 40) (hYd : M Y 6 = 1) :
    Ok 3 139 0 [aR Y, aU] [] g M (Rt (some (aI (textR s).1)) g (fun M9 => RepT M9 X (textR s) ∧ ∀ c, c ≠ X ∧ c ≠ X + 1 → M9 c = M c)) := by
  have ys3 : 0 ≤ s 3 ∧ s 3 ≤ 80 := V_3 hV
  have ys4 : 0 ≤ s 4 ∧ s 4 ≤ 16 := V_4 hV
  have yq0 : 0 ≤ q 0 ∧ q 0 ≤ 4 := Q_0 hQ
  have yq1 : 0 ≤ q 1 ∧ q 1 ≤ 6 := Q_1 hQ
  refine ok_aloadn (pc' := 1) i139_0 rfl rfl <| ok_cc i139_1 rfl (cl_v o139 m0_132 na99 rfl rfl (bt rfl) (bt rfl) rfl (by rw [ShYard_k0 hSY, o99])) ln99 (pd99 (aR Y)) <| ok_aloadn (pc' := 1) i99_0 rfl rfl <| ok_getfi (v := 1) (pc' := 4) i99_1 o99 gi0_268 (ShYard_k0 hSY) hYd rfl <| ok_kz1 (pc1 := 18) (pc2 := 7) i99_4 (by decide) rfl rfl <| ok_vret i99_18 rt99 <| kt_0 (pc' := 4) rfl <| ok_aloadn (pc' := 5) i139_4 rfl rfl <| ?_
  refine ok_getfr (r := X) (pc' := 8) i139_5 o139 gr0_86 (ShYard_k0 hSY) (ShYard_r15 hSY) rfl <| ok_iconst (pc' := 9) i139_8 rfl <| ok_putfi (pc' := 12) i139_9 o139 pi139_280 (ShText_k0 hSX) rfl <| ok_iconst (pc' := 13) i139_12 rfl <| ok_istoren (pc' := 14) (ls' := [aR Y, aI 0]) i139_13 (bt rfl) rfl rfl <| ?_
  obtain ⟨M8, hM8⟩ : ∃ u9 : AM, u9 = (up2 M X 1 0) := ⟨_, rfl⟩
  show Ok _ _ _ _ _ _ (up2 M X 1 0) _
  rw [← hM8]
  have hT8 : RepT M8 X t00 := ⟨by rw [hM8]; exact rd_eq, by decide, fun i h8 h9 => by have : i < 0 := h9; omega⟩
  have hN8 : ∀ c, c ≠ X ∧ c ≠ X + 1 → M8 c = M c := fun c hc => by rw [hM8, up2_na hc.1]
  have hR8 : RepS M8 A s := RepS.fr hRA (fun a h1 h2 => hN8 a (by omega))
  have z1 : t00.1 = 0 := rfl
  refine ok_for (lo := 0) (n := (s 3).toNat) (f := rodsX s) (a0 := t00) (fun x1 t ls M9 => RepT M9 X t ∧ t.1 ≤ 8 * x1 ∧ (∀ c, c ≠ X ∧ c ≠ X + 1 → M9 c = M c) ∧ ls = [aR Y, aI x1]) ?_ ?_ _ _ ⟨hT8, by decide, hN8, rfl⟩
  · rintro x1 t ls M9 g1 g2 ⟨hT, hl, hN, rfl⟩ ih
    have g3 : x1 < s 3 := by omega
    have htl : 0 ≤ t.1 ∧ t.1 ≤ 8 * x1 := ⟨hT.2.1, hl⟩
    have hR9 : RepS M9 A s := RepS.fr hRA (fun a h1 h2 => hN a (by omega))
    refine ok_iloadn (pc' := 15) i139_14 rfl rfl <| ok_aloadn (pc' := 16) i139_15 rfl rfl <| ok_getfr (r := A) (pc' := 19) i139_16 o139 gr0_39 (ShYard_k0 hSY) (ShYard_r8 hSY) rfl <| ok_getfi (v := (s 3)) (pc' := 22) i139_19 o139 gi0_129 (ShState_k0 hSA) (RepS_f2 hR9) rfl <| ?_
    refine ok_cge (pc1 := 50) (pc2 := 25) i139_22 (by omega) rfl rfl (fun h9 => by exfalso; omega) (fun h1 => ?_)
    refine ok_aloadn (pc' := 26) i139_25 rfl rfl <| ok_getfr (r := A) (pc' := 29) i139_26 o139 gr0_39 (ShYard_k0 hSY) (ShYard_r8 hSY) rfl <| ok_getfr (r := (A + 2)) (pc' := 32) i139_29 o139 gr0_176 (ShState_k0 hSA) (ShState_r3 hSA) rfl <| ok_iconst (pc' := 33) i139_32 rfl <| ok_aaload (r := (A + 5)) (pc' := 34) i139_33 (ShState_k2 hSA) (by decide) (ShState_l2 hSA) (by decide) (ShState_e2_2 hSA) rfl <| ok_iloadn (pc' := 35) i139_34 rfl rfl <| ?_
    have z61 : 0 ≤ s (174 + x1) ∧ s (174 + x1) ≤ 2 := V_d2 hV (i := x1) (by omega) (by omega)
    refine ok_iaload (v := (s (174 + x1))) (pc' := 36) i139_35 (ShState_k5 hSA) (by decide) (ShState_l5 hSA) (by omega) (RepS_5 hR9 (by omega) (by omega)) rfl <| ?_
    refine ok_zne (pc1 := 44) (pc2 := 39) i139_36 (by omega) rfl rfl (fun h2 => ?_) (fun h2 => ?_)
    · refine ok_iinc (pc' := 47) (v := (x1 + 1)) (ls' := [aR Y, aI (x1 + 1)]) i139_44 rfl rfl rfl rfl <| ok_goto (pc' := 14) i139_47 rfl <| ?_
      have e : rodsX s x1 t = t := by unfold rodsX; rw [if_neg (by omega)]
      have ez := rodX_8 (s := s) (t := t) (r := x1) hT.2.1 (by omega)
      exact ih _ _ ⟨by rw [e]; exact hT, by rw [e]; omega, fun c hc => hN c hc, rfl⟩
    · refine ok_aloadn (pc' := 40) i139_39 rfl rfl <| ok_iloadn (pc' := 41) i139_40 rfl rfl <| ?_
      refine ok_cn0 (pc' := 44) (d0 := 2) i139_41 rfl (cl_v o139 m0_283 na140 rfl rfl (bt rfl) (bt rfl) rfl (by rw [ShYard_k0 hSY, o140])) ln140 (pd140 (aR Y) (aI x1)) (by omega) (t140 (x1 := x1) hSY hSA hSX hR9 hV hQ hXA h40 hT (by omega) (by omega)) rfl (fun M3 p4 => ?_)
      have hFM3 : RepS M3 A s := RepS.fr hR9 (fun a h1 h2 => p4.2 a (by omega))
      refine ok_iinc (pc' := 47) (v := (x1 + 1)) (ls' := [aR Y, aI (x1 + 1)]) i139_44 rfl rfl rfl rfl <| ok_goto (pc' := 14) i139_47 rfl <| ?_
      have e : rodsX s x1 t = (rodX s t x1) := by unfold rodsX; rw [if_pos (by omega)]
      have ez := rodX_8 (s := s) (t := t) (r := x1) hT.2.1 (by omega)
      exact ih _ _ ⟨by rw [e]; exact p4.1, by rw [e]; omega, fun c hc => (p4.2 c hc).trans (hN c hc), rfl⟩
  · rintro x1 t ls M9 g1 g2 ⟨hT, hl, hN, rfl⟩
    have g3 : x1 = s 3 := by omega
    have htl : 0 ≤ t.1 ∧ t.1 ≤ 8 * x1 := ⟨hT.2.1, hl⟩
    have hR9 : RepS M9 A s := RepS.fr hRA (fun a h1 h2 => hN a (by omega))
    refine ok_iloadn (pc' := 15) i139_14 rfl rfl <| ok_aloadn (pc' := 16) i139_15 rfl rfl <| ok_getfr (r := A) (pc' := 19) i139_16 o139 gr0_39 (ShYard_k0 hSY) (ShYard_r8 hSY) rfl <| ok_getfi (v := (s 3)) (pc' := 22) i139_19 o139 gi0_129 (ShState_k0 hSA) (RepS_f2 hR9) rfl <| ?_
    refine ok_cge (pc1 := 50) (pc2 := 25) i139_22 (by omega) rfl rfl (fun h1 => ?_) (fun h9 => by exfalso; omega)
    refine ok_aloadn (pc' := 51) i139_50 rfl rfl <| ok_getfr (r := X) (pc' := 54) i139_51 o139 gr0_86 (ShYard_k0 hSY) (ShYard_r15 hSY) rfl <| ok_getfi (v := t.1) (pc' := 57) i139_54 o139 gi0_280 (ShText_k0 hSX) hT.1 rfl <| ?_
    refine ok_zne (pc1 := 69) (pc2 := 60) i139_57 (by omega) rfl rfl (fun h2 => ?_) (fun h2 => ?_)
    · refine ok_aloadn (pc' := 70) i139_69 rfl rfl <| ok_getfr (r := X) (pc' := 73) i139_70 o139 gr0_86 (ShYard_k0 hSY) (ShYard_r15 hSY) rfl <| ok_getfi (v := t.1) (pc' := 76) i139_73 o139 gi0_280 (ShText_k0 hSX) hT.1 rfl <| ok_ireti i139_76 rt139 <| ?_
      have e : textR s = t := by unfold textR; rw [g2, if_neg (by omega)]
      exact ⟨by rw [e], rfl, by rw [e]; exact hT, fun c hc => hN c hc⟩
    · refine ok_aloadn (pc' := 61) i139_60 rfl rfl <| ok_getfr (r := X) (pc' := 64) i139_61 o139 gr0_86 (ShYard_k0 hSY) (ShYard_r15 hSY) rfl <| ok_bipush (v := 45) (pc' := 66) i139_64 rfl rfl <| ?_
      refine ok_cn0 (pc' := 69) (d0 := 0) i139_66 rfl (cl_v o139 m0_286 na29 rfl rfl (bt rfl) (bt rfl) rfl (by rw [ShText_k0 hSX, o29])) ln29 (pd29 (aR X) (aI 45)) (by omega) (t29 (x1 := 45) hSX hT (by omega) (by omega)) rfl (fun M3 p4 => ?_)
      obtain ⟨t5, ht5⟩ : ∃ u9 : Tx, u9 = say t 45 := ⟨_, rfl⟩
      rw [← ht5] at p4
      have z61 : t5.1 = t.1 + 1 := by rw [ht5]; rfl
      have hFM3A : RepS M3 A s := RepS.fr hR9 (fun a h1 h2 => p4.2 a (by omega))
      refine ok_aloadn (pc' := 70) i139_69 rfl rfl <| ok_getfr (r := X) (pc' := 73) i139_70 o139 gr0_86 (ShYard_k0 hSY) (ShYard_r15 hSY) rfl <| ok_getfi (v := t5.1) (pc' := 76) i139_73 o139 gi0_280 (ShText_k0 hSX) p4.1.1 rfl <| ok_ireti i139_76 rt139 <| ?_
      have e : textR s = t5 := by unfold textR; rw [g2, if_pos (by omega), ht5]
      exact ⟨by rw [e], rfl, by rw [e]; exact p4.1, fun c hc => (p4.2 c hc).trans (hN c hc)⟩
theorem t31 {g : AG} {M : AM} {X a n : Nat} {t : Tx} {tx : Int → Int} (hSX : ShText g X) (hSa : ShStr g a n) (hn : n ≤ 20) (hW : ∀ i : Int, 0 ≤ i → i < n → M (a + 1) i = tx i ∧ 0 ≤ tx i ∧ tx i < 128) (hXa : a + 1 ≠ X ∧ a + 1 ≠ X + 1) (hT0 : RepT M X t) (hl : t.1 + 20 ≤ 320) :
    Ok 4 31 0 [aR X, aR a, aU] [] g M (Rt none g (fun M9 => RepT M9 X (sayW t tx n) ∧ ∀ c, c ≠ X ∧ c ≠ X + 1 → M9 c = M c)) := by
  have ht0 := hT0.2.1
  refine ok_iconst (pc' := 1) i31_0 rfl <| ok_istoren (pc' := 2) (ls' := [aR X, aR a, aI 0]) i31_1 (bt rfl) rfl rfl <| ?_
  refine ok_for (lo := 0) (n := n) (f := fun i t => say t (tx i)) (a0 := t) (fun x2 t9 ls M9 => RepT M9 X t9 ∧ t9.1 = t.1 + x2 ∧ (∀ c, c ≠ X ∧ c ≠ X + 1 → M9 c = M c) ∧ ls = [aR X, aR a, aI x2]) ?_ ?_ _ _ ⟨hT0, by omega, fun _ _ => rfl, rfl⟩
  · rintro x2 t9 ls M9 g1 g2 ⟨hT, hl2, hN, rfl⟩ ih
    have g3 : x2 < n := by omega
    have hW9 : ∀ i : Int, 0 ≤ i → i < n → M9 (a + 1) i = tx i ∧ 0 ≤ tx i ∧ tx i < 128 := fun i h8 h9 => by rw [hN (a + 1) (by omega)]; exact hW i h8 h9
    refine ok_iloadn (pc' := 3) i31_2 rfl rfl <| ok_aloadn (pc' := 4) i31_3 rfl rfl <| ok_cp (pc' := 7) (d0 := 1) i31_4 rfl (cl_v o31 m6_19 na1 rfl rfl (bt rfl) (bt rfl) rfl (by rw [ShStr_k0 hSa, o1])) ln1 (pd1 (aR a)) (by omega) (t1 hSa (by omega)) rfl <| ?_
    refine ok_cge (pc1 := 25) (pc2 := 10) i31_7 (by omega) rfl rfl (fun h9 => by exfalso; omega) (fun h1 => ?_)
    refine ok_aloadn (pc' := 11) i31_10 rfl rfl <| ok_aloadn (pc' := 12) i31_11 rfl rfl <| ok_iloadn (pc' := 13) i31_12 rfl rfl <| ok_cp (pc' := 16) (d0 := 3) i31_13 rfl (cl_v o31 m6_25 na2 rfl rfl (bt rfl) (bt rfl) rfl (by rw [ShStr_k0 hSa, o2])) ln2 (pd2 (aR a) (aI x2)) (by omega) (t2 (tx := tx) (x1 := x2) hSa (by omega) hW9 (by omega)) rfl <| ?_
    have z61 : 0 ≤ (tx x2) ∧ (tx x2) < 128 := (hW9 x2 (by omega) (by omega)).2
    refine ok_cn0 (pc' := 19) (d0 := 0) i31_16 rfl (cl_v o31 m6_29 na29 rfl rfl (bt rfl) (bt rfl) rfl (by rw [ShText_k0 hSX, o29])) ln29 (pd29 (aR X) (aI (tx x2))) (by omega) (t29 (x1 := (tx x2)) hSX hT (by omega) (by omega)) rfl (fun M2 p3 => ?_)
    obtain ⟨t4, ht4⟩ : ∃ u9 : Tx, u9 = say t9 (tx x2) := ⟨_, rfl⟩
    rw [← ht4] at p3
    have z62 : t4.1 = t9.1 + 1 := by rw [ht4]; rfl
    refine ok_iinc (pc' := 22) (v := (x2 + 1)) (ls' := [aR X, aR a, aI (x2 + 1)]) i31_19 rfl rfl rfl rfl <| ok_goto (pc' := 2) i31_22 rfl <| ?_
    exact ih _ _ ⟨by rw [← ht4]; exact p3.1, by show t9.1 + 1 = _; omega, fun c hc => (p3.2 c hc).trans (hN c hc), rfl⟩
  · rintro x2 t9 ls M9 g1 g2 ⟨hT, hl2, hN, rfl⟩
    have g3 : x2 = n := by omega
    have hW9 : ∀ i : Int, 0 ≤ i → i < n → M9 (a + 1) i = tx i ∧ 0 ≤ tx i ∧ tx i < 128 := fun i h8 h9 => by rw [hN (a + 1) (by omega)]; exact hW i h8 h9
    refine ok_iloadn (pc' := 3) i31_2 rfl rfl <| ok_aloadn (pc' := 4) i31_3 rfl rfl <| ok_cp (pc' := 7) (d0 := 1) i31_4 rfl (cl_v o31 m6_19 na1 rfl rfl (bt rfl) (bt rfl) rfl (by rw [ShStr_k0 hSa, o1])) ln1 (pd1 (aR a)) (by omega) (t1 hSa (by omega)) rfl <| ?_
    refine ok_cge (pc1 := 25) (pc2 := 10) i31_7 (by omega) rfl rfl (fun h1 => ?_) (fun h9 => by exfalso; omega)
    refine ok_vret i31_25 rt31 <| ?_
    exact ⟨rfl, rfl, by unfold sayW; rw [g2]; exact hT, hN⟩

