/-! THE FACE: questions (by program, wip/p60/gen) -/
theorem o98 : am_oc 98 = 0 := by decide +kernel
theorem gi0_135 : am_gfi 0 135 4 0 = true := by decide +kernel
theorem rt98 : am_rt 98 = some .int := by decide +kernel
theorem m0_144 : am_mlk 0 144 0 18 = true := by decide +kernel
theorem na18 : am_na 18 = 0 := by decide +kernel
theorem nl18 : am_nL 18 = 3 := by decide +kernel
theorem pd18 : ∀ a0 : AV, am_pad 18 [a0] = [a0, aU, aU] := by intros; unfold am_pad; rw [nl18]; rfl
theorem ln18 : 1 ≤ am_nL 18 := by rw [nl18]; decide
theorem m0_147 : am_mlk 0 147 0 19 = true := by decide +kernel
theorem na19 : am_na 19 = 0 := by decide +kernel
theorem nl19 : am_nL 19 = 3 := by decide +kernel
theorem pd19 : ∀ a0 : AV, am_pad 19 [a0] = [a0, aU, aU] := by intros; unfold am_pad; rw [nl19]; rfl
theorem ln19 : 1 ≤ am_nL 19 := by rw [nl19]; decide
theorem m0_150 : am_mlk 0 150 0 20 = true := by decide +kernel
theorem na20 : am_na 20 = 0 := by decide +kernel
theorem nl20 : am_nL 20 = 3 := by decide +kernel
theorem pd20 : ∀ a0 : AV, am_pad 20 [a0] = [a0, aU, aU] := by intros; unfold am_pad; rw [nl20]; rfl
theorem ln20 : 1 ≤ am_nL 20 := by rw [nl20]; decide
theorem m0_153 : am_mlk 0 153 0 21 = true := by decide +kernel
theorem na21 : am_na 21 = 0 := by decide +kernel
theorem nl21 : am_nL 21 = 3 := by decide +kernel
theorem pd21 : ∀ a0 : AV, am_pad 21 [a0] = [a0, aU, aU] := by intros; unfold am_pad; rw [nl21]; rfl
theorem ln21 : 1 ≤ am_nL 21 := by rw [nl21]; decide
theorem th98_116 : am_thk 98 116 11 = true := by decide +kernel
theorem th99_7 : am_thk 99 7 12 = true := by decide +kernel
theorem hh98 : am_hh 98 = [] := rfl
theorem o100 : am_oc 100 = 0 := by decide +kernel
theorem m0_158 : am_mlk 0 158 0 101 = true := by decide +kernel
theorem na101 : am_na 101 = 1 := by decide +kernel
theorem nl101 : am_nL 101 = 2 := by decide +kernel
theorem pd101 : ∀ a0 a1 : AV, am_pad 101 [a0, a1] = [a0, a1] := by intros; unfold am_pad; rw [nl101]; rfl
theorem ln101 : 2 ≤ am_nL 101 := by rw [nl101]; decide
theorem o101 : am_oc 101 = 0 := by decide +kernel
theorem rt101 : am_rt 101 = none := by decide +kernel
theorem gr0_166 : am_gfr 0 166 4 1 = true := by decide +kernel
theorem rt100 : am_rt 100 = some .int := by decide +kernel
theorem gr0_162 : am_gfr 0 162 4 2 = true := by decide +kernel
theorem th101_15 : am_thk 101 15 10 = true := by decide +kernel
theorem hh100 : am_hh 100 = [] := rfl
theorem o102 : am_oc 102 = 0 := by decide +kernel
theorem m0_169 : am_mlk 0 169 0 103 = true := by decide +kernel
theorem na103 : am_na 103 = 1 := by decide +kernel
theorem nl103 : am_nL 103 = 2 := by decide +kernel
theorem pd103 : ∀ a0 a1 : AV, am_pad 103 [a0, a1] = [a0, a1] := by intros; unfold am_pad; rw [nl103]; rfl
theorem ln103 : 2 ≤ am_nL 103 := by rw [nl103]; decide
theorem o103 : am_oc 103 = 0 := by decide +kernel
theorem rt103 : am_rt 103 = none := by decide +kernel
theorem m0_172 : am_mlk 0 172 1 104 = true := by decide +kernel
theorem na104 : am_na 104 = 3 := by decide +kernel
theorem nl104 : am_nL 104 = 3 := by decide +kernel
theorem pd104 : ∀ a0 a1 a2 : AV, am_pad 104 [a0, a1, a2] = [a0, a1, a2] := by intros; unfold am_pad; rw [nl104]; rfl
theorem ln104 : 3 ≤ am_nL 104 := by rw [nl104]; decide
theorem o104 : am_oc 104 = 0 := by decide +kernel
theorem rt104 : am_rt 104 = none := by decide +kernel
theorem rt102 : am_rt 102 = some .int := by decide +kernel
theorem th103_15 : am_thk 103 15 10 = true := by decide +kernel
theorem hh102 : am_hh 102 = [] := rfl
theorem o105 : am_oc 105 = 0 := by decide +kernel
theorem rt105 : am_rt 105 = some .int := by decide +kernel
theorem th106_15 : am_thk 106 15 10 = true := by decide +kernel
theorem hh105 : am_hh 105 = [] := rfl
theorem o107 : am_oc 107 = 0 := by decide +kernel
theorem m0_186 : am_mlk 0 186 0 108 = true := by decide +kernel
theorem na108 : am_na 108 = 1 := by decide +kernel
theorem nl108 : am_nL 108 = 2 := by decide +kernel
theorem pd108 : ∀ a0 a1 : AV, am_pad 108 [a0, a1] = [a0, a1] := by intros; unfold am_pad; rw [nl108]; rfl
theorem ln108 : 2 ≤ am_nL 108 := by rw [nl108]; decide
theorem o108 : am_oc 108 = 0 := by decide +kernel
theorem rt108 : am_rt 108 = none := by decide +kernel
theorem gr0_189 : am_gfr 0 189 4 4 = true := by decide +kernel
theorem rt107 : am_rt 107 = some .int := by decide +kernel
theorem o109 : am_oc 109 = 0 := by decide +kernel
theorem gr0_194 : am_gfr 0 194 4 5 = true := by decide +kernel
theorem rt109 : am_rt 109 = some .int := by decide +kernel
theorem th109_26 : am_thk 109 26 10 = true := by decide +kernel
theorem o110 : am_oc 110 = 0 := by decide +kernel
theorem gr0_197 : am_gfr 0 197 5 1 = true := by decide +kernel
theorem rt110 : am_rt 110 = some .int := by decide +kernel
theorem th104_10 : am_thk 104 10 11 = true := by decide +kernel
theorem hh110 : am_hh 110 = [] := rfl
theorem o111 : am_oc 111 = 0 := by decide +kernel
theorem rt111 : am_rt 111 = some .int := by decide +kernel
theorem hh111 : am_hh 111 = [] := rfl
theorem o112 : am_oc 112 = 0 := by decide +kernel
theorem m0_203 : am_mlk 0 203 1 113 = true := by decide +kernel
theorem na113 : am_na 113 = 1 := by decide +kernel
theorem nl113 : am_nL 113 = 1 := by decide +kernel
theorem pd113 : ∀ a0 : AV, am_pad 113 [a0] = [a0] := by intros; unfold am_pad; rw [nl113]; rfl
theorem ln113 : 1 ≤ am_nL 113 := by rw [nl113]; decide
theorem o113 : am_oc 113 = 0 := by decide +kernel
theorem rt113 : am_rt 113 = none := by decide +kernel
theorem m0_206 : am_mlk 0 206 0 22 = true := by decide +kernel
theorem rt112 : am_rt 112 = some .int := by decide +kernel
theorem hh113 : am_hh 113 = [] := rfl
theorem hh112 : am_hh 112 = [] := rfl
theorem o114 : am_oc 114 = 0 := by decide +kernel
theorem gr0_210 : am_gfr 0 210 5 6 = true := by decide +kernel
theorem rt114 : am_rt 114 = some .int := by decide +kernel
theorem o115 : am_oc 115 = 0 := by decide +kernel
theorem m0_213 : am_mlk 0 213 0 33 = true := by decide +kernel
theorem rt115 : am_rt 115 = some .int := by decide +kernel
theorem o116 : am_oc 116 = 0 := by decide +kernel
theorem m0_217 : am_mlk 0 217 0 34 = true := by decide +kernel
theorem rt116 : am_rt 116 = some .int := by decide +kernel
theorem hh116 : am_hh 116 = [] := rfl
theorem o117 : am_oc 117 = 0 := by decide +kernel
theorem m0_220 : am_mlk 0 220 0 23 = true := by decide +kernel
theorem rt117 : am_rt 117 = some .int := by decide +kernel
theorem o120 : am_oc 120 = 0 := by decide +kernel
theorem m0_226 : am_mlk 0 226 0 24 = true := by decide +kernel
theorem rt120 : am_rt 120 = some .int := by decide +kernel
theorem o122 : am_oc 122 = 0 := by decide +kernel
theorem m0_229 : am_mlk 0 229 0 37 = true := by decide +kernel
theorem rt122 : am_rt 122 = some .boolean := by decide +kernel
theorem o123 : am_oc 123 = 0 := by decide +kernel
theorem rt123 : am_rt 123 = some .int := by decide +kernel
theorem o124 : am_oc 124 = 0 := by decide +kernel
theorem m0_232 : am_mlk 0 232 0 38 = true := by decide +kernel
theorem rt124 : am_rt 124 = some .int := by decide +kernel
theorem o135 : am_oc 135 = 0 := by decide +kernel
theorem gr0_265 : am_gfr 0 265 5 9 = true := by decide +kernel
theorem rt135 : am_rt 135 = some .int := by decide +kernel
theorem hh135 : am_hh 135 = [] := rfl
theorem o138 : am_oc 138 = 0 := by decide +kernel
theorem gi0_272 : am_gfi 0 272 5 7 = true := by decide +kernel
theorem gr0_277 : am_gfr 0 277 5 8 = true := by decide +kernel
theorem rt138 : am_rt 138 = some .int := by decide +kernel
theorem th138_19 : am_thk 138 19 10 = true := by decide +kernel
theorem o94 : am_oc 94 = 0 := by decide +kernel
theorem rt94 : am_rt 94 = some .int := by decide +kernel
theorem gr0_71 : am_gfr 0 71 0 12 = true := by decide +kernel
theorem o95 : am_oc 95 = 0 := by decide +kernel
theorem gi0_343 : am_gfi 0 343 1 2 = true := by decide +kernel
theorem rt95 : am_rt 95 = some .int := by decide +kernel
theorem gi0_111 : am_gfi 0 111 0 3 = true := by decide +kernel
theorem o90 : am_oc 90 = 0 := by decide +kernel
theorem rt90 : am_rt 90 = some .int := by decide +kernel
theorem gi0_22 : am_gfi 0 22 0 4 = true := by decide +kernel
theorem o91 : am_oc 91 = 0 := by decide +kernel
theorem rt91 : am_rt 91 = some .int := by decide +kernel
theorem gi0_26 : am_gfi 0 26 0 5 = true := by decide +kernel
theorem o92 : am_oc 92 = 0 := by decide +kernel
theorem rt92 : am_rt 92 = some .int := by decide +kernel
theorem y98_0 {g : AG} {M : AM} {Y P A V T K H X : Nat} {q s : Int → Int} {b : Int} (hSY : ShYard g Y P A V T K H X) (hSV : ShWorks g V P A) (hSP : ShPlan g P) (hSA : ShState g A) (hRP : RepP M P q) (hRA : RepS M A s) (hQ : ValQ q) (hV : Val b q s) (hYd : M Y 6 = 1) :
    Ok 1 98 0 [aR Y, aI 0] [] g M (Rt (some (aI (q 0))) g (fun M9 => M9 = M)) := by
  have yq0 : 0 ≤ q 0 ∧ q 0 ≤ 4 := Q_0 hQ
  have yq1 : 0 ≤ q 1 ∧ q 1 ≤ 6 := Q_1 hQ
  have ys3 : 0 ≤ s 3 ∧ s 3 ≤ 80 := V_3 hV
  have ys4 : 0 ≤ s 4 ∧ s 4 ≤ 16 := V_4 hV
  refine ok_aloadn (pc' := 1) i98_0 rfl rfl <| ok_cc i98_1 rfl (cl_v o98 m0_132 na99 rfl rfl (bt rfl) (bt rfl) rfl (by rw [ShYard_k0 hSY, o99])) ln99 (pd99 (aR Y)) <| ok_aloadn (pc' := 1) i99_0 rfl rfl <| ok_getfi (v := 1) (pc' := 4) i99_1 o99 gi0_268 (ShYard_k0 hSY) hYd rfl <| ok_kz1 (pc1 := 18) (pc2 := 7) i99_4 (by decide) rfl rfl <| ok_vret i99_18 rt99 <| kt_0 (pc' := 4) rfl <| ok_iloadn (pc' := 5) i98_4 rfl rfl <| ?_
  refine ok_tsw (pc' := 52) (off := 47) i98_5 ⟨by decide, by decide⟩ (Or.inl ⟨by decide, by decide, rfl⟩) rfl <| ok_aloadn (pc' := 53) i98_52 rfl rfl <| ok_getfr (r := P) (pc' := 56) i98_53 o98 gr0_32 (ShYard_k0 hSY) (ShYard_r7 hSY) rfl <| ok_getfi (v := (q 0)) (pc' := 59) i98_56 o98 gi0_135 (ShPlan_k0 hSP) (RepP_f0 hRP) rfl <| ok_ireti i98_59 rt98 <| ?_
  exact ⟨rfl, rfl, rfl⟩
theorem y98_1 {g : AG} {M : AM} {Y P A V T K H X : Nat} {q s : Int → Int} {b : Int} (hSY : ShYard g Y P A V T K H X) (hSV : ShWorks g V P A) (hSP : ShPlan g P) (hSA : ShState g A) (hRP : RepP M P q) (hRA : RepS M A s) (hQ : ValQ q) (hV : Val b q s) (hYd : M Y 6 = 1) :
    Ok 1 98 0 [aR Y, aI 1] [] g M (Rt (some (aI (s 3))) g (fun M9 => M9 = M)) := by
  have yq0 : 0 ≤ q 0 ∧ q 0 ≤ 4 := Q_0 hQ
  have yq1 : 0 ≤ q 1 ∧ q 1 ≤ 6 := Q_1 hQ
  have ys3 : 0 ≤ s 3 ∧ s 3 ≤ 80 := V_3 hV
  have ys4 : 0 ≤ s 4 ∧ s 4 ≤ 16 := V_4 hV
  refine ok_aloadn (pc' := 1) i98_0 rfl rfl <| ok_cc i98_1 rfl (cl_v o98 m0_132 na99 rfl rfl (bt rfl) (bt rfl) rfl (by rw [ShYard_k0 hSY, o99])) ln99 (pd99 (aR Y)) <| ok_aloadn (pc' := 1) i99_0 rfl rfl <| ok_getfi (v := 1) (pc' := 4) i99_1 o99 gi0_268 (ShYard_k0 hSY) hYd rfl <| ok_kz1 (pc1 := 18) (pc2 := 7) i99_4 (by decide) rfl rfl <| ok_vret i99_18 rt99 <| kt_0 (pc' := 4) rfl <| ok_iloadn (pc' := 5) i98_4 rfl rfl <| ?_
  refine ok_tsw (pc' := 60) (off := 55) i98_5 ⟨by decide, by decide⟩ (Or.inl ⟨by decide, by decide, rfl⟩) rfl <| ok_aloadn (pc' := 61) i98_60 rfl rfl <| ok_getfr (r := A) (pc' := 64) i98_61 o98 gr0_39 (ShYard_k0 hSY) (ShYard_r8 hSY) rfl <| ok_getfi (v := (s 3)) (pc' := 67) i98_64 o98 gi0_129 (ShState_k0 hSA) (RepS_f2 hRA) rfl <| ok_ireti i98_67 rt98 <| ?_
  exact ⟨rfl, rfl, rfl⟩
theorem y98_2 {g : AG} {M : AM} {Y P A V T K H X : Nat} {q s : Int → Int} {b : Int} (hSY : ShYard g Y P A V T K H X) (hSV : ShWorks g V P A) (hSP : ShPlan g P) (hSA : ShState g A) (hRP : RepP M P q) (hRA : RepS M A s) (hQ : ValQ q) (hV : Val b q s) (hYd : M Y 6 = 1) :
    Ok 1 98 0 [aR Y, aI 2] [] g M (Rt (some (aI (s 4))) g (fun M9 => M9 = M)) := by
  have yq0 : 0 ≤ q 0 ∧ q 0 ≤ 4 := Q_0 hQ
  have yq1 : 0 ≤ q 1 ∧ q 1 ≤ 6 := Q_1 hQ
  have ys3 : 0 ≤ s 3 ∧ s 3 ≤ 80 := V_3 hV
  have ys4 : 0 ≤ s 4 ∧ s 4 ≤ 16 := V_4 hV
  refine ok_aloadn (pc' := 1) i98_0 rfl rfl <| ok_cc i98_1 rfl (cl_v o98 m0_132 na99 rfl rfl (bt rfl) (bt rfl) rfl (by rw [ShYard_k0 hSY, o99])) ln99 (pd99 (aR Y)) <| ok_aloadn (pc' := 1) i99_0 rfl rfl <| ok_getfi (v := 1) (pc' := 4) i99_1 o99 gi0_268 (ShYard_k0 hSY) hYd rfl <| ok_kz1 (pc1 := 18) (pc2 := 7) i99_4 (by decide) rfl rfl <| ok_vret i99_18 rt99 <| kt_0 (pc' := 4) rfl <| ok_iloadn (pc' := 5) i98_4 rfl rfl <| ?_
  refine ok_tsw (pc' := 68) (off := 63) i98_5 ⟨by decide, by decide⟩ (Or.inl ⟨by decide, by decide, rfl⟩) rfl <| ok_aloadn (pc' := 69) i98_68 rfl rfl <| ok_getfr (r := A) (pc' := 72) i98_69 o98 gr0_39 (ShYard_k0 hSY) (ShYard_r8 hSY) rfl <| ok_getfi (v := (s 4)) (pc' := 75) i98_72 o98 gi0_138 (ShState_k0 hSA) (RepS_f4 hRA) rfl <| ok_ireti i98_75 rt98 <| ?_
  exact ⟨rfl, rfl, rfl⟩
theorem y98_3 {g : AG} {M : AM} {Y P A V T K H X : Nat} {q s : Int → Int} {b : Int} (hSY : ShYard g Y P A V T K H X) (hSV : ShWorks g V P A) (hSP : ShPlan g P) (hSA : ShState g A) (hRP : RepP M P q) (hRA : RepS M A s) (hQ : ValQ q) (hV : Val b q s) (hYd : M Y 6 = 1) :
    Ok 1 98 0 [aR Y, aI 3] [] g M (Rt (some (aI (q 1))) g (fun M9 => M9 = M)) := by
  have yq0 : 0 ≤ q 0 ∧ q 0 ≤ 4 := Q_0 hQ
  have yq1 : 0 ≤ q 1 ∧ q 1 ≤ 6 := Q_1 hQ
  have ys3 : 0 ≤ s 3 ∧ s 3 ≤ 80 := V_3 hV
  have ys4 : 0 ≤ s 4 ∧ s 4 ≤ 16 := V_4 hV
  refine ok_aloadn (pc' := 1) i98_0 rfl rfl <| ok_cc i98_1 rfl (cl_v o98 m0_132 na99 rfl rfl (bt rfl) (bt rfl) rfl (by rw [ShYard_k0 hSY, o99])) ln99 (pd99 (aR Y)) <| ok_aloadn (pc' := 1) i99_0 rfl rfl <| ok_getfi (v := 1) (pc' := 4) i99_1 o99 gi0_268 (ShYard_k0 hSY) hYd rfl <| ok_kz1 (pc1 := 18) (pc2 := 7) i99_4 (by decide) rfl rfl <| ok_vret i99_18 rt99 <| kt_0 (pc' := 4) rfl <| ok_iloadn (pc' := 5) i98_4 rfl rfl <| ?_
  refine ok_tsw (pc' := 76) (off := 71) i98_5 ⟨by decide, by decide⟩ (Or.inl ⟨by decide, by decide, rfl⟩) rfl <| ok_aloadn (pc' := 77) i98_76 rfl rfl <| ok_getfr (r := P) (pc' := 80) i98_77 o98 gr0_32 (ShYard_k0 hSY) (ShYard_r7 hSY) rfl <| ok_getfi (v := (q 1)) (pc' := 83) i98_80 o98 gi0_141 (ShPlan_k0 hSP) (RepP_f3 hRP) rfl <| ok_ireti i98_83 rt98 <| ?_
  exact ⟨rfl, rfl, rfl⟩
theorem y98_4 {g : AG} {M : AM} {Y P A V T K H X : Nat} {q s : Int → Int} {b : Int} (hSY : ShYard g Y P A V T K H X) (hSV : ShWorks g V P A) (hSP : ShPlan g P) (hSA : ShState g A) (hRP : RepP M P q) (hRA : RepS M A s) (hQ : ValQ q) (hV : Val b q s) (hYd : M Y 6 = 1) :
    Ok 1 98 0 [aR Y, aI 4] [] g M (Rt (some (aI (r18 s))) g (fun M9 => M9 = M)) := by
  have yq0 : 0 ≤ q 0 ∧ q 0 ≤ 4 := Q_0 hQ
  have yq1 : 0 ≤ q 1 ∧ q 1 ≤ 6 := Q_1 hQ
  have ys3 : 0 ≤ s 3 ∧ s 3 ≤ 80 := V_3 hV
  have ys4 : 0 ≤ s 4 ∧ s 4 ≤ 16 := V_4 hV
  refine ok_aloadn (pc' := 1) i98_0 rfl rfl <| ok_cc i98_1 rfl (cl_v o98 m0_132 na99 rfl rfl (bt rfl) (bt rfl) rfl (by rw [ShYard_k0 hSY, o99])) ln99 (pd99 (aR Y)) <| ok_aloadn (pc' := 1) i99_0 rfl rfl <| ok_getfi (v := 1) (pc' := 4) i99_1 o99 gi0_268 (ShYard_k0 hSY) hYd rfl <| ok_kz1 (pc1 := 18) (pc2 := 7) i99_4 (by decide) rfl rfl <| ok_vret i99_18 rt99 <| kt_0 (pc' := 4) rfl <| ok_iloadn (pc' := 5) i98_4 rfl rfl <| ?_
  refine ok_tsw (pc' := 84) (off := 79) i98_5 ⟨by decide, by decide⟩ (Or.inl ⟨by decide, by decide, rfl⟩) rfl <| ok_aloadn (pc' := 85) i98_84 rfl rfl <| ok_getfr (r := A) (pc' := 88) i98_85 o98 gr0_39 (ShYard_k0 hSY) (ShYard_r8 hSY) rfl <| ok_cp (pc' := 91) (d0 := 0) i98_88 rfl (cl_v o98 m0_144 na18 rfl rfl (bt rfl) (bt rfl) rfl (by rw [ShState_k0 hSA, o18])) ln18 (pd18 (aR A)) (by omega) (t18 hSA hRA hV hQ) rfl <| ok_ireti i98_91 rt98 <| ?_
  exact ⟨rfl, rfl, rfl⟩
theorem y98_5 {g : AG} {M : AM} {Y P A V T K H X : Nat} {q s : Int → Int} {b : Int} (hSY : ShYard g Y P A V T K H X) (hSV : ShWorks g V P A) (hSP : ShPlan g P) (hSA : ShState g A) (hRP : RepP M P q) (hRA : RepS M A s) (hQ : ValQ q) (hV : Val b q s) (hYd : M Y 6 = 1) :
    Ok 1 98 0 [aR Y, aI 5] [] g M (Rt (some (aI (r19 s))) g (fun M9 => M9 = M)) := by
  have yq0 : 0 ≤ q 0 ∧ q 0 ≤ 4 := Q_0 hQ
  have yq1 : 0 ≤ q 1 ∧ q 1 ≤ 6 := Q_1 hQ
  have ys3 : 0 ≤ s 3 ∧ s 3 ≤ 80 := V_3 hV
  have ys4 : 0 ≤ s 4 ∧ s 4 ≤ 16 := V_4 hV
  refine ok_aloadn (pc' := 1) i98_0 rfl rfl <| ok_cc i98_1 rfl (cl_v o98 m0_132 na99 rfl rfl (bt rfl) (bt rfl) rfl (by rw [ShYard_k0 hSY, o99])) ln99 (pd99 (aR Y)) <| ok_aloadn (pc' := 1) i99_0 rfl rfl <| ok_getfi (v := 1) (pc' := 4) i99_1 o99 gi0_268 (ShYard_k0 hSY) hYd rfl <| ok_kz1 (pc1 := 18) (pc2 := 7) i99_4 (by decide) rfl rfl <| ok_vret i99_18 rt99 <| kt_0 (pc' := 4) rfl <| ok_iloadn (pc' := 5) i98_4 rfl rfl <| ?_
  refine ok_tsw (pc' := 92) (off := 87) i98_5 ⟨by decide, by decide⟩ (Or.inl ⟨by decide, by decide, rfl⟩) rfl <| ok_aloadn (pc' := 93) i98_92 rfl rfl <| ok_getfr (r := A) (pc' := 96) i98_93 o98 gr0_39 (ShYard_k0 hSY) (ShYard_r8 hSY) rfl <| ok_cp (pc' := 99) (d0 := 0) i98_96 rfl (cl_v o98 m0_147 na19 rfl rfl (bt rfl) (bt rfl) rfl (by rw [ShState_k0 hSA, o19])) ln19 (pd19 (aR A)) (by omega) (t19 hSA hRA.toD hV hQ) rfl <| ok_ireti i98_99 rt98 <| ?_
  exact ⟨rfl, rfl, rfl⟩
theorem y98_6 {g : AG} {M : AM} {Y P A V T K H X : Nat} {q s : Int → Int} {b : Int} (hSY : ShYard g Y P A V T K H X) (hSV : ShWorks g V P A) (hSP : ShPlan g P) (hSA : ShState g A) (hRP : RepP M P q) (hRA : RepS M A s) (hQ : ValQ q) (hV : Val b q s) (hYd : M Y 6 = 1) :
    Ok 1 98 0 [aR Y, aI 6] [] g M (Rt (some (aI (r20 s))) g (fun M9 => M9 = M)) := by
  have yq0 : 0 ≤ q 0 ∧ q 0 ≤ 4 := Q_0 hQ
  have yq1 : 0 ≤ q 1 ∧ q 1 ≤ 6 := Q_1 hQ
  have ys3 : 0 ≤ s 3 ∧ s 3 ≤ 80 := V_3 hV
  have ys4 : 0 ≤ s 4 ∧ s 4 ≤ 16 := V_4 hV
  refine ok_aloadn (pc' := 1) i98_0 rfl rfl <| ok_cc i98_1 rfl (cl_v o98 m0_132 na99 rfl rfl (bt rfl) (bt rfl) rfl (by rw [ShYard_k0 hSY, o99])) ln99 (pd99 (aR Y)) <| ok_aloadn (pc' := 1) i99_0 rfl rfl <| ok_getfi (v := 1) (pc' := 4) i99_1 o99 gi0_268 (ShYard_k0 hSY) hYd rfl <| ok_kz1 (pc1 := 18) (pc2 := 7) i99_4 (by decide) rfl rfl <| ok_vret i99_18 rt99 <| kt_0 (pc' := 4) rfl <| ok_iloadn (pc' := 5) i98_4 rfl rfl <| ?_
  refine ok_tsw (pc' := 100) (off := 95) i98_5 ⟨by decide, by decide⟩ (Or.inl ⟨by decide, by decide, rfl⟩) rfl <| ok_aloadn (pc' := 101) i98_100 rfl rfl <| ok_getfr (r := A) (pc' := 104) i98_101 o98 gr0_39 (ShYard_k0 hSY) (ShYard_r8 hSY) rfl <| ok_cp (pc' := 107) (d0 := 0) i98_104 rfl (cl_v o98 m0_150 na20 rfl rfl (bt rfl) (bt rfl) rfl (by rw [ShState_k0 hSA, o20])) ln20 (pd20 (aR A)) (by omega) (t20 hSA hRA.toD hV hQ) rfl <| ?_
  have z1 : 0 ≤ (r20 s) ∧ (r20 s) ≤ 144 := x20 (M := M) hSA hRA.toD hV hQ
  refine ok_ireti i98_107 rt98 <| ?_
  exact ⟨rfl, rfl, rfl⟩
theorem y98_7 {g : AG} {M : AM} {Y P A V T K H X : Nat} {q s : Int → Int} {b : Int} (hSY : ShYard g Y P A V T K H X) (hSV : ShWorks g V P A) (hSP : ShPlan g P) (hSA : ShState g A) (hRP : RepP M P q) (hRA : RepS M A s) (hQ : ValQ q) (hV : Val b q s) (hYd : M Y 6 = 1) :
    Ok 1 98 0 [aR Y, aI 7] [] g M (Rt (some (aI (r21 s))) g (fun M9 => M9 = M)) := by
  have yq0 : 0 ≤ q 0 ∧ q 0 ≤ 4 := Q_0 hQ
  have yq1 : 0 ≤ q 1 ∧ q 1 ≤ 6 := Q_1 hQ
  have ys3 : 0 ≤ s 3 ∧ s 3 ≤ 80 := V_3 hV
  have ys4 : 0 ≤ s 4 ∧ s 4 ≤ 16 := V_4 hV
  refine ok_aloadn (pc' := 1) i98_0 rfl rfl <| ok_cc i98_1 rfl (cl_v o98 m0_132 na99 rfl rfl (bt rfl) (bt rfl) rfl (by rw [ShYard_k0 hSY, o99])) ln99 (pd99 (aR Y)) <| ok_aloadn (pc' := 1) i99_0 rfl rfl <| ok_getfi (v := 1) (pc' := 4) i99_1 o99 gi0_268 (ShYard_k0 hSY) hYd rfl <| ok_kz1 (pc1 := 18) (pc2 := 7) i99_4 (by decide) rfl rfl <| ok_vret i99_18 rt99 <| kt_0 (pc' := 4) rfl <| ok_iloadn (pc' := 5) i98_4 rfl rfl <| ?_
  refine ok_tsw (pc' := 108) (off := 103) i98_5 ⟨by decide, by decide⟩ (Or.inl ⟨by decide, by decide, rfl⟩) rfl <| ok_aloadn (pc' := 109) i98_108 rfl rfl <| ok_getfr (r := A) (pc' := 112) i98_109 o98 gr0_39 (ShYard_k0 hSY) (ShYard_r8 hSY) rfl <| ok_cp (pc' := 115) (d0 := 0) i98_112 rfl (cl_v o98 m0_153 na21 rfl rfl (bt rfl) (bt rfl) rfl (by rw [ShState_k0 hSA, o21])) ln21 (pd21 (aR A)) (by omega) (t21 hSA hRA hV hQ) rfl <| ok_ireti i98_115 rt98 <| ?_
  exact ⟨rfl, rfl, rfl⟩
theorem y98_x {g : AG} {M : AM} {Y P A V T K H X : Nat} {q s : Int → Int} {b : Int} (hSY : ShYard g Y P A V T K H X) (hSV : ShWorks g V P A) (hSP : ShPlan g P) (hSA : ShState g A) (hRP : RepP M P q) (hRA : RepS M A s) (hQ : ValQ q) (hV : Val b q s) (hYd : M Y 6 = 1) :
    Ok 1 98 0 [aR Y, aI 8] [] g M (fun o g1 M1 => o = .inr 11 ∧ g1 = am_alloc g 30 0 6 ∧ M1 = M) := by
  have yq0 : 0 ≤ q 0 ∧ q 0 ≤ 4 := Q_0 hQ
  have yq1 : 0 ≤ q 1 ∧ q 1 ≤ 6 := Q_1 hQ
  have ys3 : 0 ≤ s 3 ∧ s 3 ≤ 80 := V_3 hV
  have ys4 : 0 ≤ s 4 ∧ s 4 ≤ 16 := V_4 hV
  refine ok_aloadn (pc' := 1) i98_0 rfl rfl <| ok_cc i98_1 rfl (cl_v o98 m0_132 na99 rfl rfl (bt rfl) (bt rfl) rfl (by rw [ShYard_k0 hSY, o99])) ln99 (pd99 (aR Y)) <| ok_aloadn (pc' := 1) i99_0 rfl rfl <| ok_getfi (v := 1) (pc' := 4) i99_1 o99 gi0_268 (ShYard_k0 hSY) hYd rfl <| ok_kz1 (pc1 := 18) (pc2 := 7) i99_4 (by decide) rfl rfl <| ok_vret i99_18 rt99 <| kt_0 (pc' := 4) rfl <| ok_iloadn (pc' := 5) i98_4 rfl rfl <| ?_
  refine ok_tsw (pc' := 116) (off := 111) i98_5 ⟨by decide, by decide⟩ (Or.inr ⟨by decide, rfl⟩) rfl <| ok_throw th98_116 (bt rfl) <| ?_
  exact ⟨rfl, rfl, rfl⟩
theorem y98_0n {g : AG} {M : AM} {Y P A V T K H X : Nat} {q s : Int → Int} {b : Int} (hSY : ShYard g Y P A V T K H X) (hSV : ShWorks g V P A) (hSP : ShPlan g P) (hSA : ShState g A) (hRP : RepP M P q) (hRA : RepS M A s) (hQ : ValQ q) (hV : Val b q s) (hYd : M Y 6 = 0) :
    Ok 1 98 0 [aR Y, aI 0] [] g M (fun o g1 M1 => o = .inr 12 ∧ g1 = am_alloc g 30 0 6 ∧ M1 = M) := by
  have yq0 : 0 ≤ q 0 ∧ q 0 ≤ 4 := Q_0 hQ
  have yq1 : 0 ≤ q 1 ∧ q 1 ≤ 6 := Q_1 hQ
  have ys3 : 0 ≤ s 3 ∧ s 3 ≤ 80 := V_3 hV
  have ys4 : 0 ≤ s 4 ∧ s 4 ≤ 16 := V_4 hV
  refine ok_aloadn (pc' := 1) i98_0 rfl rfl <| ok_cc i98_1 rfl (cl_v o98 m0_132 na99 rfl rfl (bt rfl) (bt rfl) rfl (by rw [ShYard_k0 hSY, o99])) ln99 (pd99 (aR Y)) <| ok_aloadn (pc' := 1) i99_0 rfl rfl <| ok_getfi (v := 0) (pc' := 4) i99_1 o99 gi0_268 (ShYard_k0 hSY) hYd rfl <| ok_kz0 (pc1 := 18) (pc2 := 7) i99_4 (by decide) rfl rfl <| ok_throw th99_7 (bt rfl) <| kt_x hh98 <| ?_
  exact ⟨rfl, rfl, rfl⟩
theorem y100_0 {g : AG} {M : AM} {Y P A V T K H X : Nat} {q s : Int → Int} {b : Int} {x1 : Int} (hSY : ShYard g Y P A V T K H X) (hSV : ShWorks g V P A) (hSP : ShPlan g P) (hSA : ShState g A) (hRP : RepP M P q) (hRA : RepS M A s) (hQ : ValQ q) (hV : Val b q s) (h0 : 0 ≤ x1 ∧ x1 < q 0) (hYd : M Y 6 = 1) :
    Ok 1 100 0 [aR Y, aI x1, aI 0] [] g M (Rt (some (aI (q (2 + x1)))) g (fun M9 => M9 = M)) := by
  have yq0 : 0 ≤ q 0 ∧ q 0 ≤ 4 := Q_0 hQ
  have yq1 : 0 ≤ q 1 ∧ q 1 ≤ 6 := Q_1 hQ
  have ys3 : 0 ≤ s 3 ∧ s 3 ≤ 80 := V_3 hV
  have ys4 : 0 ≤ s 4 ∧ s 4 ≤ 16 := V_4 hV
  refine ok_aloadn (pc' := 1) i100_0 rfl rfl <| ok_cc i100_1 rfl (cl_v o100 m0_132 na99 rfl rfl (bt rfl) (bt rfl) rfl (by rw [ShYard_k0 hSY, o99])) ln99 (pd99 (aR Y)) <| ok_aloadn (pc' := 1) i99_0 rfl rfl <| ok_getfi (v := 1) (pc' := 4) i99_1 o99 gi0_268 (ShYard_k0 hSY) hYd rfl <| ok_kz1 (pc1 := 18) (pc2 := 7) i99_4 (by decide) rfl rfl <| ok_vret i99_18 rt99 <| kt_0 (pc' := 4) rfl <| ok_aloadn (pc' := 5) i100_4 rfl rfl <| ?_
  refine ok_iloadn (pc' := 6) i100_5 rfl rfl <| ok_cc i100_6 rfl (cl_v o100 m0_158 na101 rfl rfl (bt rfl) (bt rfl) rfl (by rw [ShYard_k0 hSY, o101])) ln101 (pd101 (aR Y) (aI x1)) <| ok_iloadn (pc' := 1) i101_0 rfl rfl <| ?_
  refine ok_zlt (pc1 := 15) (pc2 := 4) i101_1 (by omega) rfl rfl (fun h9 => by exfalso; omega) (fun h1 => ?_)
  refine ok_iloadn (pc' := 5) i101_4 rfl rfl <| ok_aloadn (pc' := 6) i101_5 rfl rfl <| ok_getfr (r := P) (pc' := 9) i101_6 o101 gr0_32 (ShYard_k0 hSY) (ShYard_r7 hSY) rfl <| ok_getfi (v := (q 0)) (pc' := 12) i101_9 o101 gi0_135 (ShPlan_k0 hSP) (RepP_f0 hRP) rfl <| ?_
  refine ok_clt (pc1 := 26) (pc2 := 15) i101_12 (by omega) rfl rfl (fun h2 => ?_) (fun h9 => by exfalso; omega)
  refine ok_vret i101_26 rt101 <| kt_0 (pc' := 9) rfl <| ok_iloadn (pc' := 10) i100_9 rfl rfl <| ok_kz1 (pc1 := 25) (pc2 := 13) i100_10 (by decide) rfl rfl <| ok_aloadn (pc' := 26) i100_25 rfl rfl <| ok_getfr (r := P) (pc' := 29) i100_26 o100 gr0_32 (ShYard_k0 hSY) (ShYard_r7 hSY) rfl <| ok_getfr (r := (P + 1)) (pc' := 32) i100_29 o100 gr0_166 (ShPlan_k0 hSP) (ShPlan_r1 hSP) rfl <| ok_iloadn (pc' := 33) i100_32 rfl rfl <| ?_
  have z1 : 1 ≤ q (2 + x1) ∧ q (2 + x1) ≤ 200 := Q_2 hQ (i := x1) (by omega) (by omega)
  refine ok_iaload (v := (q (2 + x1))) (pc' := 34) i100_33 (ShPlan_k1 hSP) (by decide) (ShPlan_l1 hSP) (by omega) (RepP_1 hRP (by omega) (by omega)) rfl <| ok_ireti i100_34 rt100 <| ?_
  exact ⟨rfl, rfl, rfl⟩
theorem y100_1 {g : AG} {M : AM} {Y P A V T K H X : Nat} {q s : Int → Int} {b : Int} {x1 : Int} (hSY : ShYard g Y P A V T K H X) (hSV : ShWorks g V P A) (hSP : ShPlan g P) (hSA : ShState g A) (hRP : RepP M P q) (hRA : RepS M A s) (hQ : ValQ q) (hV : Val b q s) (h0 : 0 ≤ x1 ∧ x1 < q 0) (hYd : M Y 6 = 1) :
    Ok 1 100 0 [aR Y, aI x1, aI 1] [] g M (Rt (some (aI (q (6 + x1)))) g (fun M9 => M9 = M)) := by
  have yq0 : 0 ≤ q 0 ∧ q 0 ≤ 4 := Q_0 hQ
  have yq1 : 0 ≤ q 1 ∧ q 1 ≤ 6 := Q_1 hQ
  have ys3 : 0 ≤ s 3 ∧ s 3 ≤ 80 := V_3 hV
  have ys4 : 0 ≤ s 4 ∧ s 4 ≤ 16 := V_4 hV
  refine ok_aloadn (pc' := 1) i100_0 rfl rfl <| ok_cc i100_1 rfl (cl_v o100 m0_132 na99 rfl rfl (bt rfl) (bt rfl) rfl (by rw [ShYard_k0 hSY, o99])) ln99 (pd99 (aR Y)) <| ok_aloadn (pc' := 1) i99_0 rfl rfl <| ok_getfi (v := 1) (pc' := 4) i99_1 o99 gi0_268 (ShYard_k0 hSY) hYd rfl <| ok_kz1 (pc1 := 18) (pc2 := 7) i99_4 (by decide) rfl rfl <| ok_vret i99_18 rt99 <| kt_0 (pc' := 4) rfl <| ok_aloadn (pc' := 5) i100_4 rfl rfl <| ?_
  refine ok_iloadn (pc' := 6) i100_5 rfl rfl <| ok_cc i100_6 rfl (cl_v o100 m0_158 na101 rfl rfl (bt rfl) (bt rfl) rfl (by rw [ShYard_k0 hSY, o101])) ln101 (pd101 (aR Y) (aI x1)) <| ok_iloadn (pc' := 1) i101_0 rfl rfl <| ?_
  refine ok_zlt (pc1 := 15) (pc2 := 4) i101_1 (by omega) rfl rfl (fun h9 => by exfalso; omega) (fun h1 => ?_)
  refine ok_iloadn (pc' := 5) i101_4 rfl rfl <| ok_aloadn (pc' := 6) i101_5 rfl rfl <| ok_getfr (r := P) (pc' := 9) i101_6 o101 gr0_32 (ShYard_k0 hSY) (ShYard_r7 hSY) rfl <| ok_getfi (v := (q 0)) (pc' := 12) i101_9 o101 gi0_135 (ShPlan_k0 hSP) (RepP_f0 hRP) rfl <| ?_
  refine ok_clt (pc1 := 26) (pc2 := 15) i101_12 (by omega) rfl rfl (fun h2 => ?_) (fun h9 => by exfalso; omega)
  refine ok_vret i101_26 rt101 <| kt_0 (pc' := 9) rfl <| ok_iloadn (pc' := 10) i100_9 rfl rfl <| ok_kz0 (pc1 := 25) (pc2 := 13) i100_10 (by decide) rfl rfl <| ok_aloadn (pc' := 14) i100_13 rfl rfl <| ok_getfr (r := P) (pc' := 17) i100_14 o100 gr0_32 (ShYard_k0 hSY) (ShYard_r7 hSY) rfl <| ok_getfr (r := (P + 2)) (pc' := 20) i100_17 o100 gr0_162 (ShPlan_k0 hSP) (ShPlan_r2 hSP) rfl <| ok_iloadn (pc' := 21) i100_20 rfl rfl <| ?_
  have z1 : 1 ≤ q (6 + x1) ∧ q (6 + x1) ≤ 99 := Q_6 hQ (i := x1) (by omega) (by omega)
  refine ok_iaload (v := (q (6 + x1))) (pc' := 22) i100_21 (ShPlan_k2 hSP) (by decide) (ShPlan_l2 hSP) (by omega) (RepP_2 hRP (by omega) (by omega)) rfl <| ok_goto (pc' := 34) i100_22 rfl <| ok_ireti i100_34 rt100 <| ?_
  exact ⟨rfl, rfl, rfl⟩
theorem y100_x {g : AG} {M : AM} {Y P A V T K H X : Nat} {q s : Int → Int} {b : Int} {x1 : Int} (hSY : ShYard g Y P A V T K H X) (hSV : ShWorks g V P A) (hSP : ShPlan g P) (hSA : ShState g A) (hRP : RepP M P q) (hRA : RepS M A s) (hQ : ValQ q) (hV : Val b q s) (h0 : q 0 ≤ x1 ∧ x1 ≤ 100) (hYd : M Y 6 = 1) :
    Ok 1 100 0 [aR Y, aI x1, aI 1] [] g M (fun o g1 M1 => o = .inr 10 ∧ g1 = am_alloc g 30 0 6 ∧ M1 = M) := by
  have yq0 : 0 ≤ q 0 ∧ q 0 ≤ 4 := Q_0 hQ
  have yq1 : 0 ≤ q 1 ∧ q 1 ≤ 6 := Q_1 hQ
  have ys3 : 0 ≤ s 3 ∧ s 3 ≤ 80 := V_3 hV
  have ys4 : 0 ≤ s 4 ∧ s 4 ≤ 16 := V_4 hV
  refine ok_aloadn (pc' := 1) i100_0 rfl rfl <| ok_cc i100_1 rfl (cl_v o100 m0_132 na99 rfl rfl (bt rfl) (bt rfl) rfl (by rw [ShYard_k0 hSY, o99])) ln99 (pd99 (aR Y)) <| ok_aloadn (pc' := 1) i99_0 rfl rfl <| ok_getfi (v := 1) (pc' := 4) i99_1 o99 gi0_268 (ShYard_k0 hSY) hYd rfl <| ok_kz1 (pc1 := 18) (pc2 := 7) i99_4 (by decide) rfl rfl <| ok_vret i99_18 rt99 <| kt_0 (pc' := 4) rfl <| ok_aloadn (pc' := 5) i100_4 rfl rfl <| ?_
  refine ok_iloadn (pc' := 6) i100_5 rfl rfl <| ok_cc i100_6 rfl (cl_v o100 m0_158 na101 rfl rfl (bt rfl) (bt rfl) rfl (by rw [ShYard_k0 hSY, o101])) ln101 (pd101 (aR Y) (aI x1)) <| ok_iloadn (pc' := 1) i101_0 rfl rfl <| ?_
  refine ok_zlt (pc1 := 15) (pc2 := 4) i101_1 (by omega) rfl rfl (fun h9 => by exfalso; omega) (fun h1 => ?_)
  refine ok_iloadn (pc' := 5) i101_4 rfl rfl <| ok_aloadn (pc' := 6) i101_5 rfl rfl <| ok_getfr (r := P) (pc' := 9) i101_6 o101 gr0_32 (ShYard_k0 hSY) (ShYard_r7 hSY) rfl <| ok_getfi (v := (q 0)) (pc' := 12) i101_9 o101 gi0_135 (ShPlan_k0 hSP) (RepP_f0 hRP) rfl <| ?_
  refine ok_clt (pc1 := 26) (pc2 := 15) i101_12 (by omega) rfl rfl (fun h9 => by exfalso; omega) (fun h2 => ?_)
  refine ok_throw th101_15 (bt rfl) <| kt_x hh100 <| ?_
  exact ⟨rfl, rfl, rfl⟩
theorem y102_0 {g : AG} {M : AM} {Y P A V T K H X : Nat} {q s : Int → Int} {b : Int} {x1 : Int} (hSY : ShYard g Y P A V T K H X) (hSV : ShWorks g V P A) (hSP : ShPlan g P) (hSA : ShState g A) (hRP : RepP M P q) (hRA : RepS M A s) (hQ : ValQ q) (hV : Val b q s) (h0 : 0 ≤ x1 ∧ x1 < s 3) (hYd : M Y 6 = 1) :
    Ok 1 102 0 [aR Y, aI x1, aI 0] [] g M (Rt (some (aI (s (14 + x1)))) g (fun M9 => M9 = M)) := by
  have yq0 : 0 ≤ q 0 ∧ q 0 ≤ 4 := Q_0 hQ
  have yq1 : 0 ≤ q 1 ∧ q 1 ≤ 6 := Q_1 hQ
  have ys3 : 0 ≤ s 3 ∧ s 3 ≤ 80 := V_3 hV
  have ys4 : 0 ≤ s 4 ∧ s 4 ≤ 16 := V_4 hV
  refine ok_aloadn (pc' := 1) i102_0 rfl rfl <| ok_cc i102_1 rfl (cl_v o102 m0_132 na99 rfl rfl (bt rfl) (bt rfl) rfl (by rw [ShYard_k0 hSY, o99])) ln99 (pd99 (aR Y)) <| ok_aloadn (pc' := 1) i99_0 rfl rfl <| ok_getfi (v := 1) (pc' := 4) i99_1 o99 gi0_268 (ShYard_k0 hSY) hYd rfl <| ok_kz1 (pc1 := 18) (pc2 := 7) i99_4 (by decide) rfl rfl <| ok_vret i99_18 rt99 <| kt_0 (pc' := 4) rfl <| ok_aloadn (pc' := 5) i102_4 rfl rfl <| ?_
  refine ok_iloadn (pc' := 6) i102_5 rfl rfl <| ok_cc i102_6 rfl (cl_v o102 m0_169 na103 rfl rfl (bt rfl) (bt rfl) rfl (by rw [ShYard_k0 hSY, o103])) ln103 (pd103 (aR Y) (aI x1)) <| ok_iloadn (pc' := 1) i103_0 rfl rfl <| ?_
  refine ok_zlt (pc1 := 15) (pc2 := 4) i103_1 (by omega) rfl rfl (fun h9 => by exfalso; omega) (fun h1 => ?_)
  refine ok_iloadn (pc' := 5) i103_4 rfl rfl <| ok_aloadn (pc' := 6) i103_5 rfl rfl <| ok_getfr (r := A) (pc' := 9) i103_6 o103 gr0_39 (ShYard_k0 hSY) (ShYard_r8 hSY) rfl <| ok_getfi (v := (s 3)) (pc' := 12) i103_9 o103 gi0_129 (ShState_k0 hSA) (RepS_f2 hRA) rfl <| ?_
  refine ok_clt (pc1 := 26) (pc2 := 15) i103_12 (by omega) rfl rfl (fun h2 => ?_) (fun h9 => by exfalso; omega)
  refine ok_vret i103_26 rt103 <| kt_0 (pc' := 9) rfl <| ok_iloadn (pc' := 10) i102_9 rfl rfl <| ok_iconst (pc' := 11) i102_10 rfl <| ok_iconst (pc' := 12) i102_11 rfl <| ok_cc i102_12 rfl (cl_s o102 m0_172 na104 rfl rfl (bt rfl) (bt rfl) rfl) ln104 (pd104 (aI 0) (aI 0) (aI 4)) <| ok_iloadn (pc' := 1) i104_0 rfl rfl <| ok_iloadn (pc' := 2) i104_1 rfl rfl <| ?_
  refine ok_kc0 (pc1 := 10) (pc2 := 5) i104_2 (by decide) rfl rfl <| ok_iloadn (pc' := 6) i104_5 rfl rfl <| ok_iloadn (pc' := 7) i104_6 rfl rfl <| ok_kc1 (pc1 := 21) (pc2 := 10) i104_7 (by decide) rfl rfl <| ok_vret i104_21 rt104 <| kt_0 (pc' := 15) rfl <| ok_aloadn (pc' := 16) i102_15 rfl rfl <| ok_getfr (r := A) (pc' := 19) i102_16 o102 gr0_39 (ShYard_k0 hSY) (ShYard_r8 hSY) rfl <| ?_
  refine ok_getfr (r := (A + 2)) (pc' := 22) i102_19 o102 gr0_176 (ShState_k0 hSA) (ShState_r3 hSA) rfl <| ok_iloadn (pc' := 23) i102_22 rfl rfl <| ok_aaload (r := (A + 3)) (pc' := 24) i102_23 (ShState_k2 hSA) (by decide) (ShState_l2 hSA) (by decide) (ShState_e2_0 hSA) rfl <| ok_iloadn (pc' := 25) i102_24 rfl rfl <| ?_
  have z1 : 0 ≤ s (14 + x1) ∧ s (14 + x1) < q 0 := V_d0 hV (i := x1) (by omega) (by omega)
  refine ok_iaload (v := (s (14 + x1))) (pc' := 26) i102_25 (ShState_k3 hSA) (by decide) (ShState_l3 hSA) (by omega) (RepS_3 hRA (by omega) (by omega)) rfl <| ok_ireti i102_26 rt102 <| ?_
  exact ⟨rfl, rfl, rfl⟩
theorem y102_1 {g : AG} {M : AM} {Y P A V T K H X : Nat} {q s : Int → Int} {b : Int} {x1 : Int} (hSY : ShYard g Y P A V T K H X) (hSV : ShWorks g V P A) (hSP : ShPlan g P) (hSA : ShState g A) (hRP : RepP M P q) (hRA : RepS M A s) (hQ : ValQ q) (hV : Val b q s) (h0 : 0 ≤ x1 ∧ x1 < s 3) (hYd : M Y 6 = 1) :
    Ok 1 102 0 [aR Y, aI x1, aI 1] [] g M (Rt (some (aI (s (94 + x1)))) g (fun M9 => M9 = M)) := by
  have yq0 : 0 ≤ q 0 ∧ q 0 ≤ 4 := Q_0 hQ
  have yq1 : 0 ≤ q 1 ∧ q 1 ≤ 6 := Q_1 hQ
  have ys3 : 0 ≤ s 3 ∧ s 3 ≤ 80 := V_3 hV
  have ys4 : 0 ≤ s 4 ∧ s 4 ≤ 16 := V_4 hV
  refine ok_aloadn (pc' := 1) i102_0 rfl rfl <| ok_cc i102_1 rfl (cl_v o102 m0_132 na99 rfl rfl (bt rfl) (bt rfl) rfl (by rw [ShYard_k0 hSY, o99])) ln99 (pd99 (aR Y)) <| ok_aloadn (pc' := 1) i99_0 rfl rfl <| ok_getfi (v := 1) (pc' := 4) i99_1 o99 gi0_268 (ShYard_k0 hSY) hYd rfl <| ok_kz1 (pc1 := 18) (pc2 := 7) i99_4 (by decide) rfl rfl <| ok_vret i99_18 rt99 <| kt_0 (pc' := 4) rfl <| ok_aloadn (pc' := 5) i102_4 rfl rfl <| ?_
  refine ok_iloadn (pc' := 6) i102_5 rfl rfl <| ok_cc i102_6 rfl (cl_v o102 m0_169 na103 rfl rfl (bt rfl) (bt rfl) rfl (by rw [ShYard_k0 hSY, o103])) ln103 (pd103 (aR Y) (aI x1)) <| ok_iloadn (pc' := 1) i103_0 rfl rfl <| ?_
  refine ok_zlt (pc1 := 15) (pc2 := 4) i103_1 (by omega) rfl rfl (fun h9 => by exfalso; omega) (fun h1 => ?_)
  refine ok_iloadn (pc' := 5) i103_4 rfl rfl <| ok_aloadn (pc' := 6) i103_5 rfl rfl <| ok_getfr (r := A) (pc' := 9) i103_6 o103 gr0_39 (ShYard_k0 hSY) (ShYard_r8 hSY) rfl <| ok_getfi (v := (s 3)) (pc' := 12) i103_9 o103 gi0_129 (ShState_k0 hSA) (RepS_f2 hRA) rfl <| ?_
  refine ok_clt (pc1 := 26) (pc2 := 15) i103_12 (by omega) rfl rfl (fun h2 => ?_) (fun h9 => by exfalso; omega)
  refine ok_vret i103_26 rt103 <| kt_0 (pc' := 9) rfl <| ok_iloadn (pc' := 10) i102_9 rfl rfl <| ok_iconst (pc' := 11) i102_10 rfl <| ok_iconst (pc' := 12) i102_11 rfl <| ok_cc i102_12 rfl (cl_s o102 m0_172 na104 rfl rfl (bt rfl) (bt rfl) rfl) ln104 (pd104 (aI 1) (aI 0) (aI 4)) <| ok_iloadn (pc' := 1) i104_0 rfl rfl <| ok_iloadn (pc' := 2) i104_1 rfl rfl <| ?_
  refine ok_kc0 (pc1 := 10) (pc2 := 5) i104_2 (by decide) rfl rfl <| ok_iloadn (pc' := 6) i104_5 rfl rfl <| ok_iloadn (pc' := 7) i104_6 rfl rfl <| ok_kc1 (pc1 := 21) (pc2 := 10) i104_7 (by decide) rfl rfl <| ok_vret i104_21 rt104 <| kt_0 (pc' := 15) rfl <| ok_aloadn (pc' := 16) i102_15 rfl rfl <| ok_getfr (r := A) (pc' := 19) i102_16 o102 gr0_39 (ShYard_k0 hSY) (ShYard_r8 hSY) rfl <| ?_
  refine ok_getfr (r := (A + 2)) (pc' := 22) i102_19 o102 gr0_176 (ShState_k0 hSA) (ShState_r3 hSA) rfl <| ok_iloadn (pc' := 23) i102_22 rfl rfl <| ok_aaload (r := (A + 4)) (pc' := 24) i102_23 (ShState_k2 hSA) (by decide) (ShState_l2 hSA) (by decide) (ShState_e2_1 hSA) rfl <| ok_iloadn (pc' := 25) i102_24 rfl rfl <| ?_
  have z1 : 0 ≤ s (94 + x1) ∧ s (94 + x1) ≤ 200 := V_d1 hV (i := x1) (by omega) (by omega)
  refine ok_iaload (v := (s (94 + x1))) (pc' := 26) i102_25 (ShState_k4 hSA) (by decide) (ShState_l4 hSA) (by omega) (RepS_4 hRA (by omega) (by omega)) rfl <| ok_ireti i102_26 rt102 <| ?_
  exact ⟨rfl, rfl, rfl⟩
theorem y102_2 {g : AG} {M : AM} {Y P A V T K H X : Nat} {q s : Int → Int} {b : Int} {x1 : Int} (hSY : ShYard g Y P A V T K H X) (hSV : ShWorks g V P A) (hSP : ShPlan g P) (hSA : ShState g A) (hRP : RepP M P q) (hRA : RepS M A s) (hQ : ValQ q) (hV : Val b q s) (h0 : 0 ≤ x1 ∧ x1 < s 3) (hYd : M Y 6 = 1) :
    Ok 1 102 0 [aR Y, aI x1, aI 2] [] g M (Rt (some (aI (s (174 + x1)))) g (fun M9 => M9 = M)) := by
  have yq0 : 0 ≤ q 0 ∧ q 0 ≤ 4 := Q_0 hQ
  have yq1 : 0 ≤ q 1 ∧ q 1 ≤ 6 := Q_1 hQ
  have ys3 : 0 ≤ s 3 ∧ s 3 ≤ 80 := V_3 hV
  have ys4 : 0 ≤ s 4 ∧ s 4 ≤ 16 := V_4 hV
  refine ok_aloadn (pc' := 1) i102_0 rfl rfl <| ok_cc i102_1 rfl (cl_v o102 m0_132 na99 rfl rfl (bt rfl) (bt rfl) rfl (by rw [ShYard_k0 hSY, o99])) ln99 (pd99 (aR Y)) <| ok_aloadn (pc' := 1) i99_0 rfl rfl <| ok_getfi (v := 1) (pc' := 4) i99_1 o99 gi0_268 (ShYard_k0 hSY) hYd rfl <| ok_kz1 (pc1 := 18) (pc2 := 7) i99_4 (by decide) rfl rfl <| ok_vret i99_18 rt99 <| kt_0 (pc' := 4) rfl <| ok_aloadn (pc' := 5) i102_4 rfl rfl <| ?_
  refine ok_iloadn (pc' := 6) i102_5 rfl rfl <| ok_cc i102_6 rfl (cl_v o102 m0_169 na103 rfl rfl (bt rfl) (bt rfl) rfl (by rw [ShYard_k0 hSY, o103])) ln103 (pd103 (aR Y) (aI x1)) <| ok_iloadn (pc' := 1) i103_0 rfl rfl <| ?_
  refine ok_zlt (pc1 := 15) (pc2 := 4) i103_1 (by omega) rfl rfl (fun h9 => by exfalso; omega) (fun h1 => ?_)
  refine ok_iloadn (pc' := 5) i103_4 rfl rfl <| ok_aloadn (pc' := 6) i103_5 rfl rfl <| ok_getfr (r := A) (pc' := 9) i103_6 o103 gr0_39 (ShYard_k0 hSY) (ShYard_r8 hSY) rfl <| ok_getfi (v := (s 3)) (pc' := 12) i103_9 o103 gi0_129 (ShState_k0 hSA) (RepS_f2 hRA) rfl <| ?_
  refine ok_clt (pc1 := 26) (pc2 := 15) i103_12 (by omega) rfl rfl (fun h2 => ?_) (fun h9 => by exfalso; omega)
  refine ok_vret i103_26 rt103 <| kt_0 (pc' := 9) rfl <| ok_iloadn (pc' := 10) i102_9 rfl rfl <| ok_iconst (pc' := 11) i102_10 rfl <| ok_iconst (pc' := 12) i102_11 rfl <| ok_cc i102_12 rfl (cl_s o102 m0_172 na104 rfl rfl (bt rfl) (bt rfl) rfl) ln104 (pd104 (aI 2) (aI 0) (aI 4)) <| ok_iloadn (pc' := 1) i104_0 rfl rfl <| ok_iloadn (pc' := 2) i104_1 rfl rfl <| ?_
  refine ok_kc0 (pc1 := 10) (pc2 := 5) i104_2 (by decide) rfl rfl <| ok_iloadn (pc' := 6) i104_5 rfl rfl <| ok_iloadn (pc' := 7) i104_6 rfl rfl <| ok_kc1 (pc1 := 21) (pc2 := 10) i104_7 (by decide) rfl rfl <| ok_vret i104_21 rt104 <| kt_0 (pc' := 15) rfl <| ok_aloadn (pc' := 16) i102_15 rfl rfl <| ok_getfr (r := A) (pc' := 19) i102_16 o102 gr0_39 (ShYard_k0 hSY) (ShYard_r8 hSY) rfl <| ?_
  refine ok_getfr (r := (A + 2)) (pc' := 22) i102_19 o102 gr0_176 (ShState_k0 hSA) (ShState_r3 hSA) rfl <| ok_iloadn (pc' := 23) i102_22 rfl rfl <| ok_aaload (r := (A + 5)) (pc' := 24) i102_23 (ShState_k2 hSA) (by decide) (ShState_l2 hSA) (by decide) (ShState_e2_2 hSA) rfl <| ok_iloadn (pc' := 25) i102_24 rfl rfl <| ?_
  have z1 : 0 ≤ s (174 + x1) ∧ s (174 + x1) ≤ 2 := V_d2 hV (i := x1) (by omega) (by omega)
  refine ok_iaload (v := (s (174 + x1))) (pc' := 26) i102_25 (ShState_k5 hSA) (by decide) (ShState_l5 hSA) (by omega) (RepS_5 hRA (by omega) (by omega)) rfl <| ok_ireti i102_26 rt102 <| ?_
  exact ⟨rfl, rfl, rfl⟩
theorem y102_3 {g : AG} {M : AM} {Y P A V T K H X : Nat} {q s : Int → Int} {b : Int} {x1 : Int} (hSY : ShYard g Y P A V T K H X) (hSV : ShWorks g V P A) (hSP : ShPlan g P) (hSA : ShState g A) (hRP : RepP M P q) (hRA : RepS M A s) (hQ : ValQ q) (hV : Val b q s) (h0 : 0 ≤ x1 ∧ x1 < s 3) (hYd : M Y 6 = 1) :
    Ok 1 102 0 [aR Y, aI x1, aI 3] [] g M (Rt (some (aI (s (254 + x1)))) g (fun M9 => M9 = M)) := by
  have yq0 : 0 ≤ q 0 ∧ q 0 ≤ 4 := Q_0 hQ
  have yq1 : 0 ≤ q 1 ∧ q 1 ≤ 6 := Q_1 hQ
  have ys3 : 0 ≤ s 3 ∧ s 3 ≤ 80 := V_3 hV
  have ys4 : 0 ≤ s 4 ∧ s 4 ≤ 16 := V_4 hV
  refine ok_aloadn (pc' := 1) i102_0 rfl rfl <| ok_cc i102_1 rfl (cl_v o102 m0_132 na99 rfl rfl (bt rfl) (bt rfl) rfl (by rw [ShYard_k0 hSY, o99])) ln99 (pd99 (aR Y)) <| ok_aloadn (pc' := 1) i99_0 rfl rfl <| ok_getfi (v := 1) (pc' := 4) i99_1 o99 gi0_268 (ShYard_k0 hSY) hYd rfl <| ok_kz1 (pc1 := 18) (pc2 := 7) i99_4 (by decide) rfl rfl <| ok_vret i99_18 rt99 <| kt_0 (pc' := 4) rfl <| ok_aloadn (pc' := 5) i102_4 rfl rfl <| ?_
  refine ok_iloadn (pc' := 6) i102_5 rfl rfl <| ok_cc i102_6 rfl (cl_v o102 m0_169 na103 rfl rfl (bt rfl) (bt rfl) rfl (by rw [ShYard_k0 hSY, o103])) ln103 (pd103 (aR Y) (aI x1)) <| ok_iloadn (pc' := 1) i103_0 rfl rfl <| ?_
  refine ok_zlt (pc1 := 15) (pc2 := 4) i103_1 (by omega) rfl rfl (fun h9 => by exfalso; omega) (fun h1 => ?_)
  refine ok_iloadn (pc' := 5) i103_4 rfl rfl <| ok_aloadn (pc' := 6) i103_5 rfl rfl <| ok_getfr (r := A) (pc' := 9) i103_6 o103 gr0_39 (ShYard_k0 hSY) (ShYard_r8 hSY) rfl <| ok_getfi (v := (s 3)) (pc' := 12) i103_9 o103 gi0_129 (ShState_k0 hSA) (RepS_f2 hRA) rfl <| ?_
  refine ok_clt (pc1 := 26) (pc2 := 15) i103_12 (by omega) rfl rfl (fun h2 => ?_) (fun h9 => by exfalso; omega)
  refine ok_vret i103_26 rt103 <| kt_0 (pc' := 9) rfl <| ok_iloadn (pc' := 10) i102_9 rfl rfl <| ok_iconst (pc' := 11) i102_10 rfl <| ok_iconst (pc' := 12) i102_11 rfl <| ok_cc i102_12 rfl (cl_s o102 m0_172 na104 rfl rfl (bt rfl) (bt rfl) rfl) ln104 (pd104 (aI 3) (aI 0) (aI 4)) <| ok_iloadn (pc' := 1) i104_0 rfl rfl <| ok_iloadn (pc' := 2) i104_1 rfl rfl <| ?_
  refine ok_kc0 (pc1 := 10) (pc2 := 5) i104_2 (by decide) rfl rfl <| ok_iloadn (pc' := 6) i104_5 rfl rfl <| ok_iloadn (pc' := 7) i104_6 rfl rfl <| ok_kc1 (pc1 := 21) (pc2 := 10) i104_7 (by decide) rfl rfl <| ok_vret i104_21 rt104 <| kt_0 (pc' := 15) rfl <| ok_aloadn (pc' := 16) i102_15 rfl rfl <| ok_getfr (r := A) (pc' := 19) i102_16 o102 gr0_39 (ShYard_k0 hSY) (ShYard_r8 hSY) rfl <| ?_
  refine ok_getfr (r := (A + 2)) (pc' := 22) i102_19 o102 gr0_176 (ShState_k0 hSA) (ShState_r3 hSA) rfl <| ok_iloadn (pc' := 23) i102_22 rfl rfl <| ok_aaload (r := (A + 6)) (pc' := 24) i102_23 (ShState_k2 hSA) (by decide) (ShState_l2 hSA) (by decide) (ShState_e2_3 hSA) rfl <| ok_iloadn (pc' := 25) i102_24 rfl rfl <| ok_iaload (v := (s (254 + x1))) (pc' := 26) i102_25 (ShState_k6 hSA) (by decide) (ShState_l6 hSA) (by omega) (RepS_6 hRA (by omega) (by omega)) rfl <| ok_ireti i102_26 rt102 <| ?_
  exact ⟨rfl, rfl, rfl⟩
theorem y102_4 {g : AG} {M : AM} {Y P A V T K H X : Nat} {q s : Int → Int} {b : Int} {x1 : Int} (hSY : ShYard g Y P A V T K H X) (hSV : ShWorks g V P A) (hSP : ShPlan g P) (hSA : ShState g A) (hRP : RepP M P q) (hRA : RepS M A s) (hQ : ValQ q) (hV : Val b q s) (h0 : 0 ≤ x1 ∧ x1 < s 3) (hYd : M Y 6 = 1) :
    Ok 1 102 0 [aR Y, aI x1, aI 4] [] g M (Rt (some (aI (s (334 + x1)))) g (fun M9 => M9 = M)) := by
  have yq0 : 0 ≤ q 0 ∧ q 0 ≤ 4 := Q_0 hQ
  have yq1 : 0 ≤ q 1 ∧ q 1 ≤ 6 := Q_1 hQ
  have ys3 : 0 ≤ s 3 ∧ s 3 ≤ 80 := V_3 hV
  have ys4 : 0 ≤ s 4 ∧ s 4 ≤ 16 := V_4 hV
  refine ok_aloadn (pc' := 1) i102_0 rfl rfl <| ok_cc i102_1 rfl (cl_v o102 m0_132 na99 rfl rfl (bt rfl) (bt rfl) rfl (by rw [ShYard_k0 hSY, o99])) ln99 (pd99 (aR Y)) <| ok_aloadn (pc' := 1) i99_0 rfl rfl <| ok_getfi (v := 1) (pc' := 4) i99_1 o99 gi0_268 (ShYard_k0 hSY) hYd rfl <| ok_kz1 (pc1 := 18) (pc2 := 7) i99_4 (by decide) rfl rfl <| ok_vret i99_18 rt99 <| kt_0 (pc' := 4) rfl <| ok_aloadn (pc' := 5) i102_4 rfl rfl <| ?_
  refine ok_iloadn (pc' := 6) i102_5 rfl rfl <| ok_cc i102_6 rfl (cl_v o102 m0_169 na103 rfl rfl (bt rfl) (bt rfl) rfl (by rw [ShYard_k0 hSY, o103])) ln103 (pd103 (aR Y) (aI x1)) <| ok_iloadn (pc' := 1) i103_0 rfl rfl <| ?_
  refine ok_zlt (pc1 := 15) (pc2 := 4) i103_1 (by omega) rfl rfl (fun h9 => by exfalso; omega) (fun h1 => ?_)
  refine ok_iloadn (pc' := 5) i103_4 rfl rfl <| ok_aloadn (pc' := 6) i103_5 rfl rfl <| ok_getfr (r := A) (pc' := 9) i103_6 o103 gr0_39 (ShYard_k0 hSY) (ShYard_r8 hSY) rfl <| ok_getfi (v := (s 3)) (pc' := 12) i103_9 o103 gi0_129 (ShState_k0 hSA) (RepS_f2 hRA) rfl <| ?_
  refine ok_clt (pc1 := 26) (pc2 := 15) i103_12 (by omega) rfl rfl (fun h2 => ?_) (fun h9 => by exfalso; omega)
  refine ok_vret i103_26 rt103 <| kt_0 (pc' := 9) rfl <| ok_iloadn (pc' := 10) i102_9 rfl rfl <| ok_iconst (pc' := 11) i102_10 rfl <| ok_iconst (pc' := 12) i102_11 rfl <| ok_cc i102_12 rfl (cl_s o102 m0_172 na104 rfl rfl (bt rfl) (bt rfl) rfl) ln104 (pd104 (aI 4) (aI 0) (aI 4)) <| ok_iloadn (pc' := 1) i104_0 rfl rfl <| ok_iloadn (pc' := 2) i104_1 rfl rfl <| ?_
  refine ok_kc0 (pc1 := 10) (pc2 := 5) i104_2 (by decide) rfl rfl <| ok_iloadn (pc' := 6) i104_5 rfl rfl <| ok_iloadn (pc' := 7) i104_6 rfl rfl <| ok_kc1 (pc1 := 21) (pc2 := 10) i104_7 (by decide) rfl rfl <| ok_vret i104_21 rt104 <| kt_0 (pc' := 15) rfl <| ok_aloadn (pc' := 16) i102_15 rfl rfl <| ok_getfr (r := A) (pc' := 19) i102_16 o102 gr0_39 (ShYard_k0 hSY) (ShYard_r8 hSY) rfl <| ?_
  refine ok_getfr (r := (A + 2)) (pc' := 22) i102_19 o102 gr0_176 (ShState_k0 hSA) (ShState_r3 hSA) rfl <| ok_iloadn (pc' := 23) i102_22 rfl rfl <| ok_aaload (r := (A + 7)) (pc' := 24) i102_23 (ShState_k2 hSA) (by decide) (ShState_l2 hSA) (by decide) (ShState_e2_4 hSA) rfl <| ok_iloadn (pc' := 25) i102_24 rfl rfl <| ?_
  have z1 : 0 ≤ s (334 + x1) ∧ s (334 + x1) ≤ 1 := V_d4 hV (i := x1) (by omega) (by omega)
  refine ok_iaload (v := (s (334 + x1))) (pc' := 26) i102_25 (ShState_k7 hSA) (by decide) (ShState_l7 hSA) (by omega) (RepS_7 hRA (by omega) (by omega)) rfl <| ok_ireti i102_26 rt102 <| ?_
  exact ⟨rfl, rfl, rfl⟩
theorem y102_x {g : AG} {M : AM} {Y P A V T K H X : Nat} {q s : Int → Int} {b : Int} {x1 : Int} (hSY : ShYard g Y P A V T K H X) (hSV : ShWorks g V P A) (hSP : ShPlan g P) (hSA : ShState g A) (hRP : RepP M P q) (hRA : RepS M A s) (hQ : ValQ q) (hV : Val b q s) (h0 : s 3 ≤ x1 ∧ x1 ≤ 100) (hYd : M Y 6 = 1) :
    Ok 1 102 0 [aR Y, aI x1, aI 0] [] g M (fun o g1 M1 => o = .inr 10 ∧ g1 = am_alloc g 30 0 6 ∧ M1 = M) := by
  have yq0 : 0 ≤ q 0 ∧ q 0 ≤ 4 := Q_0 hQ
  have yq1 : 0 ≤ q 1 ∧ q 1 ≤ 6 := Q_1 hQ
  have ys3 : 0 ≤ s 3 ∧ s 3 ≤ 80 := V_3 hV
  have ys4 : 0 ≤ s 4 ∧ s 4 ≤ 16 := V_4 hV
  refine ok_aloadn (pc' := 1) i102_0 rfl rfl <| ok_cc i102_1 rfl (cl_v o102 m0_132 na99 rfl rfl (bt rfl) (bt rfl) rfl (by rw [ShYard_k0 hSY, o99])) ln99 (pd99 (aR Y)) <| ok_aloadn (pc' := 1) i99_0 rfl rfl <| ok_getfi (v := 1) (pc' := 4) i99_1 o99 gi0_268 (ShYard_k0 hSY) hYd rfl <| ok_kz1 (pc1 := 18) (pc2 := 7) i99_4 (by decide) rfl rfl <| ok_vret i99_18 rt99 <| kt_0 (pc' := 4) rfl <| ok_aloadn (pc' := 5) i102_4 rfl rfl <| ?_
  refine ok_iloadn (pc' := 6) i102_5 rfl rfl <| ok_cc i102_6 rfl (cl_v o102 m0_169 na103 rfl rfl (bt rfl) (bt rfl) rfl (by rw [ShYard_k0 hSY, o103])) ln103 (pd103 (aR Y) (aI x1)) <| ok_iloadn (pc' := 1) i103_0 rfl rfl <| ?_
  refine ok_zlt (pc1 := 15) (pc2 := 4) i103_1 (by omega) rfl rfl (fun h9 => by exfalso; omega) (fun h1 => ?_)
  refine ok_iloadn (pc' := 5) i103_4 rfl rfl <| ok_aloadn (pc' := 6) i103_5 rfl rfl <| ok_getfr (r := A) (pc' := 9) i103_6 o103 gr0_39 (ShYard_k0 hSY) (ShYard_r8 hSY) rfl <| ok_getfi (v := (s 3)) (pc' := 12) i103_9 o103 gi0_129 (ShState_k0 hSA) (RepS_f2 hRA) rfl <| ?_
  refine ok_clt (pc1 := 26) (pc2 := 15) i103_12 (by omega) rfl rfl (fun h9 => by exfalso; omega) (fun h2 => ?_)
  refine ok_throw th103_15 (bt rfl) <| kt_x hh102 <| ?_
  exact ⟨rfl, rfl, rfl⟩
theorem y105_0 {g : AG} {M : AM} {Y P A V T K H X : Nat} {q s : Int → Int} {b : Int} {x1 : Int} (hSY : ShYard g Y P A V T K H X) (hSV : ShWorks g V P A) (hSP : ShPlan g P) (hSA : ShState g A) (hRP : RepP M P q) (hRA : RepS M A s) (hQ : ValQ q) (hV : Val b q s) (h0 : 0 ≤ x1 ∧ x1 < s 4) (hYd : M Y 6 = 1) :
    Ok 1 105 0 [aR Y, aI x1, aI 0] [] g M (Rt (some (aI (s (414 + (8 * x1))))) g (fun M9 => M9 = M)) := by
  have yq0 : 0 ≤ q 0 ∧ q 0 ≤ 4 := Q_0 hQ
  have yq1 : 0 ≤ q 1 ∧ q 1 ≤ 6 := Q_1 hQ
  have ys3 : 0 ≤ s 3 ∧ s 3 ≤ 80 := V_3 hV
  have ys4 : 0 ≤ s 4 ∧ s 4 ≤ 16 := V_4 hV
  refine ok_aloadn (pc' := 1) i105_0 rfl rfl <| ok_cc i105_1 rfl (cl_v o105 m0_132 na99 rfl rfl (bt rfl) (bt rfl) rfl (by rw [ShYard_k0 hSY, o99])) ln99 (pd99 (aR Y)) <| ok_aloadn (pc' := 1) i99_0 rfl rfl <| ok_getfi (v := 1) (pc' := 4) i99_1 o99 gi0_268 (ShYard_k0 hSY) hYd rfl <| ok_kz1 (pc1 := 18) (pc2 := 7) i99_4 (by decide) rfl rfl <| ok_vret i99_18 rt99 <| kt_0 (pc' := 4) rfl <| ok_aloadn (pc' := 5) i105_4 rfl rfl <| ?_
  refine ok_iloadn (pc' := 6) i105_5 rfl rfl <| ok_cc i105_6 rfl (cl_v o105 m0_180 na106 rfl rfl (bt rfl) (bt rfl) rfl (by rw [ShYard_k0 hSY, o106])) ln106 (pd106 (aR Y) (aI x1)) <| ok_iloadn (pc' := 1) i106_0 rfl rfl <| ?_
  refine ok_zlt (pc1 := 15) (pc2 := 4) i106_1 (by omega) rfl rfl (fun h9 => by exfalso; omega) (fun h1 => ?_)
  refine ok_iloadn (pc' := 5) i106_4 rfl rfl <| ok_aloadn (pc' := 6) i106_5 rfl rfl <| ok_getfr (r := A) (pc' := 9) i106_6 o106 gr0_39 (ShYard_k0 hSY) (ShYard_r8 hSY) rfl <| ok_getfi (v := (s 4)) (pc' := 12) i106_9 o106 gi0_138 (ShState_k0 hSA) (RepS_f4 hRA) rfl <| ?_
  refine ok_clt (pc1 := 26) (pc2 := 15) i106_12 (by omega) rfl rfl (fun h2 => ?_) (fun h9 => by exfalso; omega)
  refine ok_vret i106_26 rt106 <| kt_0 (pc' := 9) rfl <| ok_iloadn (pc' := 10) i105_9 rfl rfl <| ok_iconst (pc' := 11) i105_10 rfl <| ok_bipush (v := 7) (pc' := 13) i105_11 rfl rfl <| ok_cc i105_13 rfl (cl_s o105 m0_172 na104 rfl rfl (bt rfl) (bt rfl) rfl) ln104 (pd104 (aI 0) (aI 0) (aI 7)) <| ok_iloadn (pc' := 1) i104_0 rfl rfl <| ok_iloadn (pc' := 2) i104_1 rfl rfl <| ?_
  refine ok_kc0 (pc1 := 10) (pc2 := 5) i104_2 (by decide) rfl rfl <| ok_iloadn (pc' := 6) i104_5 rfl rfl <| ok_iloadn (pc' := 7) i104_6 rfl rfl <| ok_kc1 (pc1 := 21) (pc2 := 10) i104_7 (by decide) rfl rfl <| ok_vret i104_21 rt104 <| kt_0 (pc' := 16) rfl <| ok_aloadn (pc' := 17) i105_16 rfl rfl <| ok_getfr (r := A) (pc' := 20) i105_17 o105 gr0_39 (ShYard_k0 hSY) (ShYard_r8 hSY) rfl <| ?_
  refine ok_getfr (r := (A + 8)) (pc' := 23) i105_20 o105 gr0_183 (ShState_k0 hSA) (ShState_r5 hSA) rfl <| ok_iloadn (pc' := 24) i105_23 rfl rfl <| ok_aaload (r := (A + 9)) (pc' := 25) i105_24 (ShState_k8 hSA) (by decide) (ShState_l8 hSA) (by decide) (ShState_e8_0 hSA) rfl <| ok_iloadn (pc' := 26) i105_25 rfl rfl <| ?_
  have z1 : 1 ≤ s (414 + (8 * x1)) ∧ s (414 + (8 * x1)) ≤ 200 := V_o0 hV (i := x1) (by omega) (by omega)
  refine ok_iaload (v := (s (414 + (8 * x1)))) (pc' := 27) i105_26 (ShState_k9 hSA) (by decide) (ShState_l9 hSA) (by omega) (RepS_9 hRA (by omega) (by omega)) rfl <| ok_ireti i105_27 rt105 <| ?_
  exact ⟨rfl, rfl, rfl⟩
theorem y105_1 {g : AG} {M : AM} {Y P A V T K H X : Nat} {q s : Int → Int} {b : Int} {x1 : Int} (hSY : ShYard g Y P A V T K H X) (hSV : ShWorks g V P A) (hSP : ShPlan g P) (hSA : ShState g A) (hRP : RepP M P q) (hRA : RepS M A s) (hQ : ValQ q) (hV : Val b q s) (h0 : 0 ≤ x1 ∧ x1 < s 4) (hYd : M Y 6 = 1) :
    Ok 1 105 0 [aR Y, aI x1, aI 1] [] g M (Rt (some (aI (s ((414 + (8 * x1)) + 1)))) g (fun M9 => M9 = M)) := by
  have yq0 : 0 ≤ q 0 ∧ q 0 ≤ 4 := Q_0 hQ
  have yq1 : 0 ≤ q 1 ∧ q 1 ≤ 6 := Q_1 hQ
  have ys3 : 0 ≤ s 3 ∧ s 3 ≤ 80 := V_3 hV
  have ys4 : 0 ≤ s 4 ∧ s 4 ≤ 16 := V_4 hV
  refine ok_aloadn (pc' := 1) i105_0 rfl rfl <| ok_cc i105_1 rfl (cl_v o105 m0_132 na99 rfl rfl (bt rfl) (bt rfl) rfl (by rw [ShYard_k0 hSY, o99])) ln99 (pd99 (aR Y)) <| ok_aloadn (pc' := 1) i99_0 rfl rfl <| ok_getfi (v := 1) (pc' := 4) i99_1 o99 gi0_268 (ShYard_k0 hSY) hYd rfl <| ok_kz1 (pc1 := 18) (pc2 := 7) i99_4 (by decide) rfl rfl <| ok_vret i99_18 rt99 <| kt_0 (pc' := 4) rfl <| ok_aloadn (pc' := 5) i105_4 rfl rfl <| ?_
  refine ok_iloadn (pc' := 6) i105_5 rfl rfl <| ok_cc i105_6 rfl (cl_v o105 m0_180 na106 rfl rfl (bt rfl) (bt rfl) rfl (by rw [ShYard_k0 hSY, o106])) ln106 (pd106 (aR Y) (aI x1)) <| ok_iloadn (pc' := 1) i106_0 rfl rfl <| ?_
  refine ok_zlt (pc1 := 15) (pc2 := 4) i106_1 (by omega) rfl rfl (fun h9 => by exfalso; omega) (fun h1 => ?_)
  refine ok_iloadn (pc' := 5) i106_4 rfl rfl <| ok_aloadn (pc' := 6) i106_5 rfl rfl <| ok_getfr (r := A) (pc' := 9) i106_6 o106 gr0_39 (ShYard_k0 hSY) (ShYard_r8 hSY) rfl <| ok_getfi (v := (s 4)) (pc' := 12) i106_9 o106 gi0_138 (ShState_k0 hSA) (RepS_f4 hRA) rfl <| ?_
  refine ok_clt (pc1 := 26) (pc2 := 15) i106_12 (by omega) rfl rfl (fun h2 => ?_) (fun h9 => by exfalso; omega)
  refine ok_vret i106_26 rt106 <| kt_0 (pc' := 9) rfl <| ok_iloadn (pc' := 10) i105_9 rfl rfl <| ok_iconst (pc' := 11) i105_10 rfl <| ok_bipush (v := 7) (pc' := 13) i105_11 rfl rfl <| ok_cc i105_13 rfl (cl_s o105 m0_172 na104 rfl rfl (bt rfl) (bt rfl) rfl) ln104 (pd104 (aI 1) (aI 0) (aI 7)) <| ok_iloadn (pc' := 1) i104_0 rfl rfl <| ok_iloadn (pc' := 2) i104_1 rfl rfl <| ?_
  refine ok_kc0 (pc1 := 10) (pc2 := 5) i104_2 (by decide) rfl rfl <| ok_iloadn (pc' := 6) i104_5 rfl rfl <| ok_iloadn (pc' := 7) i104_6 rfl rfl <| ok_kc1 (pc1 := 21) (pc2 := 10) i104_7 (by decide) rfl rfl <| ok_vret i104_21 rt104 <| kt_0 (pc' := 16) rfl <| ok_aloadn (pc' := 17) i105_16 rfl rfl <| ok_getfr (r := A) (pc' := 20) i105_17 o105 gr0_39 (ShYard_k0 hSY) (ShYard_r8 hSY) rfl <| ?_
  refine ok_getfr (r := (A + 8)) (pc' := 23) i105_20 o105 gr0_183 (ShState_k0 hSA) (ShState_r5 hSA) rfl <| ok_iloadn (pc' := 24) i105_23 rfl rfl <| ok_aaload (r := (A + 10)) (pc' := 25) i105_24 (ShState_k8 hSA) (by decide) (ShState_l8 hSA) (by decide) (ShState_e8_1 hSA) rfl <| ok_iloadn (pc' := 26) i105_25 rfl rfl <| ?_
  have z1 : 1 ≤ s ((414 + (8 * x1)) + 1) ∧ s ((414 + (8 * x1)) + 1) ≤ 9 := V_o1 hV (i := x1) (by omega) (by omega)
  refine ok_iaload (v := (s ((414 + (8 * x1)) + 1))) (pc' := 27) i105_26 (ShState_k10 hSA) (by decide) (ShState_l10 hSA) (by omega) (RepS_10 hRA (by omega) (by omega)) rfl <| ok_ireti i105_27 rt105 <| ?_
  exact ⟨rfl, rfl, rfl⟩
theorem y105_2 {g : AG} {M : AM} {Y P A V T K H X : Nat} {q s : Int → Int} {b : Int} {x1 : Int} (hSY : ShYard g Y P A V T K H X) (hSV : ShWorks g V P A) (hSP : ShPlan g P) (hSA : ShState g A) (hRP : RepP M P q) (hRA : RepS M A s) (hQ : ValQ q) (hV : Val b q s) (h0 : 0 ≤ x1 ∧ x1 < s 4) (hYd : M Y 6 = 1) :
    Ok 1 105 0 [aR Y, aI x1, aI 2] [] g M (Rt (some (aI (s ((414 + (8 * x1)) + 2)))) g (fun M9 => M9 = M)) := by
  have yq0 : 0 ≤ q 0 ∧ q 0 ≤ 4 := Q_0 hQ
  have yq1 : 0 ≤ q 1 ∧ q 1 ≤ 6 := Q_1 hQ
  have ys3 : 0 ≤ s 3 ∧ s 3 ≤ 80 := V_3 hV
  have ys4 : 0 ≤ s 4 ∧ s 4 ≤ 16 := V_4 hV
  refine ok_aloadn (pc' := 1) i105_0 rfl rfl <| ok_cc i105_1 rfl (cl_v o105 m0_132 na99 rfl rfl (bt rfl) (bt rfl) rfl (by rw [ShYard_k0 hSY, o99])) ln99 (pd99 (aR Y)) <| ok_aloadn (pc' := 1) i99_0 rfl rfl <| ok_getfi (v := 1) (pc' := 4) i99_1 o99 gi0_268 (ShYard_k0 hSY) hYd rfl <| ok_kz1 (pc1 := 18) (pc2 := 7) i99_4 (by decide) rfl rfl <| ok_vret i99_18 rt99 <| kt_0 (pc' := 4) rfl <| ok_aloadn (pc' := 5) i105_4 rfl rfl <| ?_
  refine ok_iloadn (pc' := 6) i105_5 rfl rfl <| ok_cc i105_6 rfl (cl_v o105 m0_180 na106 rfl rfl (bt rfl) (bt rfl) rfl (by rw [ShYard_k0 hSY, o106])) ln106 (pd106 (aR Y) (aI x1)) <| ok_iloadn (pc' := 1) i106_0 rfl rfl <| ?_
  refine ok_zlt (pc1 := 15) (pc2 := 4) i106_1 (by omega) rfl rfl (fun h9 => by exfalso; omega) (fun h1 => ?_)
  refine ok_iloadn (pc' := 5) i106_4 rfl rfl <| ok_aloadn (pc' := 6) i106_5 rfl rfl <| ok_getfr (r := A) (pc' := 9) i106_6 o106 gr0_39 (ShYard_k0 hSY) (ShYard_r8 hSY) rfl <| ok_getfi (v := (s 4)) (pc' := 12) i106_9 o106 gi0_138 (ShState_k0 hSA) (RepS_f4 hRA) rfl <| ?_
  refine ok_clt (pc1 := 26) (pc2 := 15) i106_12 (by omega) rfl rfl (fun h2 => ?_) (fun h9 => by exfalso; omega)
  refine ok_vret i106_26 rt106 <| kt_0 (pc' := 9) rfl <| ok_iloadn (pc' := 10) i105_9 rfl rfl <| ok_iconst (pc' := 11) i105_10 rfl <| ok_bipush (v := 7) (pc' := 13) i105_11 rfl rfl <| ok_cc i105_13 rfl (cl_s o105 m0_172 na104 rfl rfl (bt rfl) (bt rfl) rfl) ln104 (pd104 (aI 2) (aI 0) (aI 7)) <| ok_iloadn (pc' := 1) i104_0 rfl rfl <| ok_iloadn (pc' := 2) i104_1 rfl rfl <| ?_
  refine ok_kc0 (pc1 := 10) (pc2 := 5) i104_2 (by decide) rfl rfl <| ok_iloadn (pc' := 6) i104_5 rfl rfl <| ok_iloadn (pc' := 7) i104_6 rfl rfl <| ok_kc1 (pc1 := 21) (pc2 := 10) i104_7 (by decide) rfl rfl <| ok_vret i104_21 rt104 <| kt_0 (pc' := 16) rfl <| ok_aloadn (pc' := 17) i105_16 rfl rfl <| ok_getfr (r := A) (pc' := 20) i105_17 o105 gr0_39 (ShYard_k0 hSY) (ShYard_r8 hSY) rfl <| ?_
  refine ok_getfr (r := (A + 8)) (pc' := 23) i105_20 o105 gr0_183 (ShState_k0 hSA) (ShState_r5 hSA) rfl <| ok_iloadn (pc' := 24) i105_23 rfl rfl <| ok_aaload (r := (A + 11)) (pc' := 25) i105_24 (ShState_k8 hSA) (by decide) (ShState_l8 hSA) (by decide) (ShState_e8_2 hSA) rfl <| ok_iloadn (pc' := 26) i105_25 rfl rfl <| ?_
  have z1 : 0 ≤ s ((414 + (8 * x1)) + 2) ∧ s ((414 + (8 * x1)) + 2) ≤ 99 := V_o2 hV (i := x1) (by omega) (by omega)
  refine ok_iaload (v := (s ((414 + (8 * x1)) + 2))) (pc' := 27) i105_26 (ShState_k11 hSA) (by decide) (ShState_l11 hSA) (by omega) (RepS_11 hRA (by omega) (by omega)) rfl <| ok_ireti i105_27 rt105 <| ?_
  exact ⟨rfl, rfl, rfl⟩
theorem y105_3 {g : AG} {M : AM} {Y P A V T K H X : Nat} {q s : Int → Int} {b : Int} {x1 : Int} (hSY : ShYard g Y P A V T K H X) (hSV : ShWorks g V P A) (hSP : ShPlan g P) (hSA : ShState g A) (hRP : RepP M P q) (hRA : RepS M A s) (hQ : ValQ q) (hV : Val b q s) (h0 : 0 ≤ x1 ∧ x1 < s 4) (hYd : M Y 6 = 1) :
    Ok 1 105 0 [aR Y, aI x1, aI 3] [] g M (Rt (some (aI (s ((414 + (8 * x1)) + 3)))) g (fun M9 => M9 = M)) := by
  have yq0 : 0 ≤ q 0 ∧ q 0 ≤ 4 := Q_0 hQ
  have yq1 : 0 ≤ q 1 ∧ q 1 ≤ 6 := Q_1 hQ
  have ys3 : 0 ≤ s 3 ∧ s 3 ≤ 80 := V_3 hV
  have ys4 : 0 ≤ s 4 ∧ s 4 ≤ 16 := V_4 hV
  refine ok_aloadn (pc' := 1) i105_0 rfl rfl <| ok_cc i105_1 rfl (cl_v o105 m0_132 na99 rfl rfl (bt rfl) (bt rfl) rfl (by rw [ShYard_k0 hSY, o99])) ln99 (pd99 (aR Y)) <| ok_aloadn (pc' := 1) i99_0 rfl rfl <| ok_getfi (v := 1) (pc' := 4) i99_1 o99 gi0_268 (ShYard_k0 hSY) hYd rfl <| ok_kz1 (pc1 := 18) (pc2 := 7) i99_4 (by decide) rfl rfl <| ok_vret i99_18 rt99 <| kt_0 (pc' := 4) rfl <| ok_aloadn (pc' := 5) i105_4 rfl rfl <| ?_
  refine ok_iloadn (pc' := 6) i105_5 rfl rfl <| ok_cc i105_6 rfl (cl_v o105 m0_180 na106 rfl rfl (bt rfl) (bt rfl) rfl (by rw [ShYard_k0 hSY, o106])) ln106 (pd106 (aR Y) (aI x1)) <| ok_iloadn (pc' := 1) i106_0 rfl rfl <| ?_
  refine ok_zlt (pc1 := 15) (pc2 := 4) i106_1 (by omega) rfl rfl (fun h9 => by exfalso; omega) (fun h1 => ?_)
  refine ok_iloadn (pc' := 5) i106_4 rfl rfl <| ok_aloadn (pc' := 6) i106_5 rfl rfl <| ok_getfr (r := A) (pc' := 9) i106_6 o106 gr0_39 (ShYard_k0 hSY) (ShYard_r8 hSY) rfl <| ok_getfi (v := (s 4)) (pc' := 12) i106_9 o106 gi0_138 (ShState_k0 hSA) (RepS_f4 hRA) rfl <| ?_
  refine ok_clt (pc1 := 26) (pc2 := 15) i106_12 (by omega) rfl rfl (fun h2 => ?_) (fun h9 => by exfalso; omega)
  refine ok_vret i106_26 rt106 <| kt_0 (pc' := 9) rfl <| ok_iloadn (pc' := 10) i105_9 rfl rfl <| ok_iconst (pc' := 11) i105_10 rfl <| ok_bipush (v := 7) (pc' := 13) i105_11 rfl rfl <| ok_cc i105_13 rfl (cl_s o105 m0_172 na104 rfl rfl (bt rfl) (bt rfl) rfl) ln104 (pd104 (aI 3) (aI 0) (aI 7)) <| ok_iloadn (pc' := 1) i104_0 rfl rfl <| ok_iloadn (pc' := 2) i104_1 rfl rfl <| ?_
  refine ok_kc0 (pc1 := 10) (pc2 := 5) i104_2 (by decide) rfl rfl <| ok_iloadn (pc' := 6) i104_5 rfl rfl <| ok_iloadn (pc' := 7) i104_6 rfl rfl <| ok_kc1 (pc1 := 21) (pc2 := 10) i104_7 (by decide) rfl rfl <| ok_vret i104_21 rt104 <| kt_0 (pc' := 16) rfl <| ok_aloadn (pc' := 17) i105_16 rfl rfl <| ok_getfr (r := A) (pc' := 20) i105_17 o105 gr0_39 (ShYard_k0 hSY) (ShYard_r8 hSY) rfl <| ?_
  refine ok_getfr (r := (A + 8)) (pc' := 23) i105_20 o105 gr0_183 (ShState_k0 hSA) (ShState_r5 hSA) rfl <| ok_iloadn (pc' := 24) i105_23 rfl rfl <| ok_aaload (r := (A + 12)) (pc' := 25) i105_24 (ShState_k8 hSA) (by decide) (ShState_l8 hSA) (by decide) (ShState_e8_3 hSA) rfl <| ok_iloadn (pc' := 26) i105_25 rfl rfl <| ?_
  have z1 : 0 ≤ s ((414 + (8 * x1)) + 3) ∧ s ((414 + (8 * x1)) + 3) ≤ 999 := V_o3 hV (i := x1) (by omega) (by omega)
  refine ok_iaload (v := (s ((414 + (8 * x1)) + 3))) (pc' := 27) i105_26 (ShState_k12 hSA) (by decide) (ShState_l12 hSA) (by omega) (RepS_12 hRA (by omega) (by omega)) rfl <| ok_ireti i105_27 rt105 <| ?_
  exact ⟨rfl, rfl, rfl⟩
theorem y105_4 {g : AG} {M : AM} {Y P A V T K H X : Nat} {q s : Int → Int} {b : Int} {x1 : Int} (hSY : ShYard g Y P A V T K H X) (hSV : ShWorks g V P A) (hSP : ShPlan g P) (hSA : ShState g A) (hRP : RepP M P q) (hRA : RepS M A s) (hQ : ValQ q) (hV : Val b q s) (h0 : 0 ≤ x1 ∧ x1 < s 4) (hYd : M Y 6 = 1) :
    Ok 1 105 0 [aR Y, aI x1, aI 4] [] g M (Rt (some (aI (s ((414 + (8 * x1)) + 4)))) g (fun M9 => M9 = M)) := by
  have yq0 : 0 ≤ q 0 ∧ q 0 ≤ 4 := Q_0 hQ
  have yq1 : 0 ≤ q 1 ∧ q 1 ≤ 6 := Q_1 hQ
  have ys3 : 0 ≤ s 3 ∧ s 3 ≤ 80 := V_3 hV
  have ys4 : 0 ≤ s 4 ∧ s 4 ≤ 16 := V_4 hV
  refine ok_aloadn (pc' := 1) i105_0 rfl rfl <| ok_cc i105_1 rfl (cl_v o105 m0_132 na99 rfl rfl (bt rfl) (bt rfl) rfl (by rw [ShYard_k0 hSY, o99])) ln99 (pd99 (aR Y)) <| ok_aloadn (pc' := 1) i99_0 rfl rfl <| ok_getfi (v := 1) (pc' := 4) i99_1 o99 gi0_268 (ShYard_k0 hSY) hYd rfl <| ok_kz1 (pc1 := 18) (pc2 := 7) i99_4 (by decide) rfl rfl <| ok_vret i99_18 rt99 <| kt_0 (pc' := 4) rfl <| ok_aloadn (pc' := 5) i105_4 rfl rfl <| ?_
  refine ok_iloadn (pc' := 6) i105_5 rfl rfl <| ok_cc i105_6 rfl (cl_v o105 m0_180 na106 rfl rfl (bt rfl) (bt rfl) rfl (by rw [ShYard_k0 hSY, o106])) ln106 (pd106 (aR Y) (aI x1)) <| ok_iloadn (pc' := 1) i106_0 rfl rfl <| ?_
  refine ok_zlt (pc1 := 15) (pc2 := 4) i106_1 (by omega) rfl rfl (fun h9 => by exfalso; omega) (fun h1 => ?_)
  refine ok_iloadn (pc' := 5) i106_4 rfl rfl <| ok_aloadn (pc' := 6) i106_5 rfl rfl <| ok_getfr (r := A) (pc' := 9) i106_6 o106 gr0_39 (ShYard_k0 hSY) (ShYard_r8 hSY) rfl <| ok_getfi (v := (s 4)) (pc' := 12) i106_9 o106 gi0_138 (ShState_k0 hSA) (RepS_f4 hRA) rfl <| ?_
  refine ok_clt (pc1 := 26) (pc2 := 15) i106_12 (by omega) rfl rfl (fun h2 => ?_) (fun h9 => by exfalso; omega)
  refine ok_vret i106_26 rt106 <| kt_0 (pc' := 9) rfl <| ok_iloadn (pc' := 10) i105_9 rfl rfl <| ok_iconst (pc' := 11) i105_10 rfl <| ok_bipush (v := 7) (pc' := 13) i105_11 rfl rfl <| ok_cc i105_13 rfl (cl_s o105 m0_172 na104 rfl rfl (bt rfl) (bt rfl) rfl) ln104 (pd104 (aI 4) (aI 0) (aI 7)) <| ok_iloadn (pc' := 1) i104_0 rfl rfl <| ok_iloadn (pc' := 2) i104_1 rfl rfl <| ?_
  refine ok_kc0 (pc1 := 10) (pc2 := 5) i104_2 (by decide) rfl rfl <| ok_iloadn (pc' := 6) i104_5 rfl rfl <| ok_iloadn (pc' := 7) i104_6 rfl rfl <| ok_kc1 (pc1 := 21) (pc2 := 10) i104_7 (by decide) rfl rfl <| ok_vret i104_21 rt104 <| kt_0 (pc' := 16) rfl <| ok_aloadn (pc' := 17) i105_16 rfl rfl <| ok_getfr (r := A) (pc' := 20) i105_17 o105 gr0_39 (ShYard_k0 hSY) (ShYard_r8 hSY) rfl <| ?_
  refine ok_getfr (r := (A + 8)) (pc' := 23) i105_20 o105 gr0_183 (ShState_k0 hSA) (ShState_r5 hSA) rfl <| ok_iloadn (pc' := 24) i105_23 rfl rfl <| ok_aaload (r := (A + 13)) (pc' := 25) i105_24 (ShState_k8 hSA) (by decide) (ShState_l8 hSA) (by decide) (ShState_e8_4 hSA) rfl <| ok_iloadn (pc' := 26) i105_25 rfl rfl <| ?_
  have z1 : 0 ≤ s ((414 + (8 * x1)) + 4) ∧ s ((414 + (8 * x1)) + 4) ≤ 9 := V_o4 hV (i := x1) (by omega) (by omega)
  refine ok_iaload (v := (s ((414 + (8 * x1)) + 4))) (pc' := 27) i105_26 (ShState_k13 hSA) (by decide) (ShState_l13 hSA) (by omega) (RepS_13 hRA (by omega) (by omega)) rfl <| ok_ireti i105_27 rt105 <| ?_
  exact ⟨rfl, rfl, rfl⟩
theorem y105_5 {g : AG} {M : AM} {Y P A V T K H X : Nat} {q s : Int → Int} {b : Int} {x1 : Int} (hSY : ShYard g Y P A V T K H X) (hSV : ShWorks g V P A) (hSP : ShPlan g P) (hSA : ShState g A) (hRP : RepP M P q) (hRA : RepS M A s) (hQ : ValQ q) (hV : Val b q s) (h0 : 0 ≤ x1 ∧ x1 < s 4) (hYd : M Y 6 = 1) :
    Ok 1 105 0 [aR Y, aI x1, aI 5] [] g M (Rt (some (aI (s ((414 + (8 * x1)) + 5)))) g (fun M9 => M9 = M)) := by
  have yq0 : 0 ≤ q 0 ∧ q 0 ≤ 4 := Q_0 hQ
  have yq1 : 0 ≤ q 1 ∧ q 1 ≤ 6 := Q_1 hQ
  have ys3 : 0 ≤ s 3 ∧ s 3 ≤ 80 := V_3 hV
  have ys4 : 0 ≤ s 4 ∧ s 4 ≤ 16 := V_4 hV
  refine ok_aloadn (pc' := 1) i105_0 rfl rfl <| ok_cc i105_1 rfl (cl_v o105 m0_132 na99 rfl rfl (bt rfl) (bt rfl) rfl (by rw [ShYard_k0 hSY, o99])) ln99 (pd99 (aR Y)) <| ok_aloadn (pc' := 1) i99_0 rfl rfl <| ok_getfi (v := 1) (pc' := 4) i99_1 o99 gi0_268 (ShYard_k0 hSY) hYd rfl <| ok_kz1 (pc1 := 18) (pc2 := 7) i99_4 (by decide) rfl rfl <| ok_vret i99_18 rt99 <| kt_0 (pc' := 4) rfl <| ok_aloadn (pc' := 5) i105_4 rfl rfl <| ?_
  refine ok_iloadn (pc' := 6) i105_5 rfl rfl <| ok_cc i105_6 rfl (cl_v o105 m0_180 na106 rfl rfl (bt rfl) (bt rfl) rfl (by rw [ShYard_k0 hSY, o106])) ln106 (pd106 (aR Y) (aI x1)) <| ok_iloadn (pc' := 1) i106_0 rfl rfl <| ?_
  refine ok_zlt (pc1 := 15) (pc2 := 4) i106_1 (by omega) rfl rfl (fun h9 => by exfalso; omega) (fun h1 => ?_)
  refine ok_iloadn (pc' := 5) i106_4 rfl rfl <| ok_aloadn (pc' := 6) i106_5 rfl rfl <| ok_getfr (r := A) (pc' := 9) i106_6 o106 gr0_39 (ShYard_k0 hSY) (ShYard_r8 hSY) rfl <| ok_getfi (v := (s 4)) (pc' := 12) i106_9 o106 gi0_138 (ShState_k0 hSA) (RepS_f4 hRA) rfl <| ?_
  refine ok_clt (pc1 := 26) (pc2 := 15) i106_12 (by omega) rfl rfl (fun h2 => ?_) (fun h9 => by exfalso; omega)
  refine ok_vret i106_26 rt106 <| kt_0 (pc' := 9) rfl <| ok_iloadn (pc' := 10) i105_9 rfl rfl <| ok_iconst (pc' := 11) i105_10 rfl <| ok_bipush (v := 7) (pc' := 13) i105_11 rfl rfl <| ok_cc i105_13 rfl (cl_s o105 m0_172 na104 rfl rfl (bt rfl) (bt rfl) rfl) ln104 (pd104 (aI 5) (aI 0) (aI 7)) <| ok_iloadn (pc' := 1) i104_0 rfl rfl <| ok_iloadn (pc' := 2) i104_1 rfl rfl <| ?_
  refine ok_kc0 (pc1 := 10) (pc2 := 5) i104_2 (by decide) rfl rfl <| ok_iloadn (pc' := 6) i104_5 rfl rfl <| ok_iloadn (pc' := 7) i104_6 rfl rfl <| ok_kc1 (pc1 := 21) (pc2 := 10) i104_7 (by decide) rfl rfl <| ok_vret i104_21 rt104 <| kt_0 (pc' := 16) rfl <| ok_aloadn (pc' := 17) i105_16 rfl rfl <| ok_getfr (r := A) (pc' := 20) i105_17 o105 gr0_39 (ShYard_k0 hSY) (ShYard_r8 hSY) rfl <| ?_
  refine ok_getfr (r := (A + 8)) (pc' := 23) i105_20 o105 gr0_183 (ShState_k0 hSA) (ShState_r5 hSA) rfl <| ok_iloadn (pc' := 24) i105_23 rfl rfl <| ok_aaload (r := (A + 14)) (pc' := 25) i105_24 (ShState_k8 hSA) (by decide) (ShState_l8 hSA) (by decide) (ShState_e8_5 hSA) rfl <| ok_iloadn (pc' := 26) i105_25 rfl rfl <| ?_
  have z1 : 0 ≤ s ((414 + (8 * x1)) + 5) ∧ s ((414 + (8 * x1)) + 5) ≤ 9 := V_o5 hV (i := x1) (by omega) (by omega)
  refine ok_iaload (v := (s ((414 + (8 * x1)) + 5))) (pc' := 27) i105_26 (ShState_k14 hSA) (by decide) (ShState_l14 hSA) (by omega) (RepS_14 hRA (by omega) (by omega)) rfl <| ok_ireti i105_27 rt105 <| ?_
  exact ⟨rfl, rfl, rfl⟩
theorem y105_6 {g : AG} {M : AM} {Y P A V T K H X : Nat} {q s : Int → Int} {b : Int} {x1 : Int} (hSY : ShYard g Y P A V T K H X) (hSV : ShWorks g V P A) (hSP : ShPlan g P) (hSA : ShState g A) (hRP : RepP M P q) (hRA : RepS M A s) (hQ : ValQ q) (hV : Val b q s) (h0 : 0 ≤ x1 ∧ x1 < s 4) (hYd : M Y 6 = 1) :
    Ok 1 105 0 [aR Y, aI x1, aI 6] [] g M (Rt (some (aI (s ((414 + (8 * x1)) + 6)))) g (fun M9 => M9 = M)) := by
  have yq0 : 0 ≤ q 0 ∧ q 0 ≤ 4 := Q_0 hQ
  have yq1 : 0 ≤ q 1 ∧ q 1 ≤ 6 := Q_1 hQ
  have ys3 : 0 ≤ s 3 ∧ s 3 ≤ 80 := V_3 hV
  have ys4 : 0 ≤ s 4 ∧ s 4 ≤ 16 := V_4 hV
  refine ok_aloadn (pc' := 1) i105_0 rfl rfl <| ok_cc i105_1 rfl (cl_v o105 m0_132 na99 rfl rfl (bt rfl) (bt rfl) rfl (by rw [ShYard_k0 hSY, o99])) ln99 (pd99 (aR Y)) <| ok_aloadn (pc' := 1) i99_0 rfl rfl <| ok_getfi (v := 1) (pc' := 4) i99_1 o99 gi0_268 (ShYard_k0 hSY) hYd rfl <| ok_kz1 (pc1 := 18) (pc2 := 7) i99_4 (by decide) rfl rfl <| ok_vret i99_18 rt99 <| kt_0 (pc' := 4) rfl <| ok_aloadn (pc' := 5) i105_4 rfl rfl <| ?_
  refine ok_iloadn (pc' := 6) i105_5 rfl rfl <| ok_cc i105_6 rfl (cl_v o105 m0_180 na106 rfl rfl (bt rfl) (bt rfl) rfl (by rw [ShYard_k0 hSY, o106])) ln106 (pd106 (aR Y) (aI x1)) <| ok_iloadn (pc' := 1) i106_0 rfl rfl <| ?_
  refine ok_zlt (pc1 := 15) (pc2 := 4) i106_1 (by omega) rfl rfl (fun h9 => by exfalso; omega) (fun h1 => ?_)
  refine ok_iloadn (pc' := 5) i106_4 rfl rfl <| ok_aloadn (pc' := 6) i106_5 rfl rfl <| ok_getfr (r := A) (pc' := 9) i106_6 o106 gr0_39 (ShYard_k0 hSY) (ShYard_r8 hSY) rfl <| ok_getfi (v := (s 4)) (pc' := 12) i106_9 o106 gi0_138 (ShState_k0 hSA) (RepS_f4 hRA) rfl <| ?_
  refine ok_clt (pc1 := 26) (pc2 := 15) i106_12 (by omega) rfl rfl (fun h2 => ?_) (fun h9 => by exfalso; omega)
  refine ok_vret i106_26 rt106 <| kt_0 (pc' := 9) rfl <| ok_iloadn (pc' := 10) i105_9 rfl rfl <| ok_iconst (pc' := 11) i105_10 rfl <| ok_bipush (v := 7) (pc' := 13) i105_11 rfl rfl <| ok_cc i105_13 rfl (cl_s o105 m0_172 na104 rfl rfl (bt rfl) (bt rfl) rfl) ln104 (pd104 (aI 6) (aI 0) (aI 7)) <| ok_iloadn (pc' := 1) i104_0 rfl rfl <| ok_iloadn (pc' := 2) i104_1 rfl rfl <| ?_
  refine ok_kc0 (pc1 := 10) (pc2 := 5) i104_2 (by decide) rfl rfl <| ok_iloadn (pc' := 6) i104_5 rfl rfl <| ok_iloadn (pc' := 7) i104_6 rfl rfl <| ok_kc1 (pc1 := 21) (pc2 := 10) i104_7 (by decide) rfl rfl <| ok_vret i104_21 rt104 <| kt_0 (pc' := 16) rfl <| ok_aloadn (pc' := 17) i105_16 rfl rfl <| ok_getfr (r := A) (pc' := 20) i105_17 o105 gr0_39 (ShYard_k0 hSY) (ShYard_r8 hSY) rfl <| ?_
  refine ok_getfr (r := (A + 8)) (pc' := 23) i105_20 o105 gr0_183 (ShState_k0 hSA) (ShState_r5 hSA) rfl <| ok_iloadn (pc' := 24) i105_23 rfl rfl <| ok_aaload (r := (A + 15)) (pc' := 25) i105_24 (ShState_k8 hSA) (by decide) (ShState_l8 hSA) (by decide) (ShState_e8_6 hSA) rfl <| ok_iloadn (pc' := 26) i105_25 rfl rfl <| ?_
  have z1 : 0 ≤ s ((414 + (8 * x1)) + 6) ∧ s ((414 + (8 * x1)) + 6) ≤ 9 := V_o6 hV (i := x1) (by omega) (by omega)
  refine ok_iaload (v := (s ((414 + (8 * x1)) + 6))) (pc' := 27) i105_26 (ShState_k15 hSA) (by decide) (ShState_l15 hSA) (by omega) (RepS_15 hRA (by omega) (by omega)) rfl <| ok_ireti i105_27 rt105 <| ?_
  exact ⟨rfl, rfl, rfl⟩
theorem y105_7 {g : AG} {M : AM} {Y P A V T K H X : Nat} {q s : Int → Int} {b : Int} {x1 : Int} (hSY : ShYard g Y P A V T K H X) (hSV : ShWorks g V P A) (hSP : ShPlan g P) (hSA : ShState g A) (hRP : RepP M P q) (hRA : RepS M A s) (hQ : ValQ q) (hV : Val b q s) (h0 : 0 ≤ x1 ∧ x1 < s 4) (hYd : M Y 6 = 1) :
    Ok 1 105 0 [aR Y, aI x1, aI 7] [] g M (Rt (some (aI (s ((414 + (8 * x1)) + 7)))) g (fun M9 => M9 = M)) := by
  have yq0 : 0 ≤ q 0 ∧ q 0 ≤ 4 := Q_0 hQ
  have yq1 : 0 ≤ q 1 ∧ q 1 ≤ 6 := Q_1 hQ
  have ys3 : 0 ≤ s 3 ∧ s 3 ≤ 80 := V_3 hV
  have ys4 : 0 ≤ s 4 ∧ s 4 ≤ 16 := V_4 hV
  refine ok_aloadn (pc' := 1) i105_0 rfl rfl <| ok_cc i105_1 rfl (cl_v o105 m0_132 na99 rfl rfl (bt rfl) (bt rfl) rfl (by rw [ShYard_k0 hSY, o99])) ln99 (pd99 (aR Y)) <| ok_aloadn (pc' := 1) i99_0 rfl rfl <| ok_getfi (v := 1) (pc' := 4) i99_1 o99 gi0_268 (ShYard_k0 hSY) hYd rfl <| ok_kz1 (pc1 := 18) (pc2 := 7) i99_4 (by decide) rfl rfl <| ok_vret i99_18 rt99 <| kt_0 (pc' := 4) rfl <| ok_aloadn (pc' := 5) i105_4 rfl rfl <| ?_
  refine ok_iloadn (pc' := 6) i105_5 rfl rfl <| ok_cc i105_6 rfl (cl_v o105 m0_180 na106 rfl rfl (bt rfl) (bt rfl) rfl (by rw [ShYard_k0 hSY, o106])) ln106 (pd106 (aR Y) (aI x1)) <| ok_iloadn (pc' := 1) i106_0 rfl rfl <| ?_
  refine ok_zlt (pc1 := 15) (pc2 := 4) i106_1 (by omega) rfl rfl (fun h9 => by exfalso; omega) (fun h1 => ?_)
  refine ok_iloadn (pc' := 5) i106_4 rfl rfl <| ok_aloadn (pc' := 6) i106_5 rfl rfl <| ok_getfr (r := A) (pc' := 9) i106_6 o106 gr0_39 (ShYard_k0 hSY) (ShYard_r8 hSY) rfl <| ok_getfi (v := (s 4)) (pc' := 12) i106_9 o106 gi0_138 (ShState_k0 hSA) (RepS_f4 hRA) rfl <| ?_
  refine ok_clt (pc1 := 26) (pc2 := 15) i106_12 (by omega) rfl rfl (fun h2 => ?_) (fun h9 => by exfalso; omega)
  refine ok_vret i106_26 rt106 <| kt_0 (pc' := 9) rfl <| ok_iloadn (pc' := 10) i105_9 rfl rfl <| ok_iconst (pc' := 11) i105_10 rfl <| ok_bipush (v := 7) (pc' := 13) i105_11 rfl rfl <| ok_cc i105_13 rfl (cl_s o105 m0_172 na104 rfl rfl (bt rfl) (bt rfl) rfl) ln104 (pd104 (aI 7) (aI 0) (aI 7)) <| ok_iloadn (pc' := 1) i104_0 rfl rfl <| ok_iloadn (pc' := 2) i104_1 rfl rfl <| ?_
  refine ok_kc0 (pc1 := 10) (pc2 := 5) i104_2 (by decide) rfl rfl <| ok_iloadn (pc' := 6) i104_5 rfl rfl <| ok_iloadn (pc' := 7) i104_6 rfl rfl <| ok_kc1 (pc1 := 21) (pc2 := 10) i104_7 (by decide) rfl rfl <| ok_vret i104_21 rt104 <| kt_0 (pc' := 16) rfl <| ok_aloadn (pc' := 17) i105_16 rfl rfl <| ok_getfr (r := A) (pc' := 20) i105_17 o105 gr0_39 (ShYard_k0 hSY) (ShYard_r8 hSY) rfl <| ?_
  refine ok_getfr (r := (A + 8)) (pc' := 23) i105_20 o105 gr0_183 (ShState_k0 hSA) (ShState_r5 hSA) rfl <| ok_iloadn (pc' := 24) i105_23 rfl rfl <| ok_aaload (r := (A + 16)) (pc' := 25) i105_24 (ShState_k8 hSA) (by decide) (ShState_l8 hSA) (by decide) (ShState_e8_7 hSA) rfl <| ok_iloadn (pc' := 26) i105_25 rfl rfl <| ?_
  have z1 : 0 ≤ s ((414 + (8 * x1)) + 7) ∧ s ((414 + (8 * x1)) + 7) ≤ 1 := V_o7 hV (i := x1) (by omega) (by omega)
  refine ok_iaload (v := (s ((414 + (8 * x1)) + 7))) (pc' := 27) i105_26 (ShState_k16 hSA) (by decide) (ShState_l16 hSA) (by omega) (RepS_16 hRA (by omega) (by omega)) rfl <| ok_ireti i105_27 rt105 <| ?_
  exact ⟨rfl, rfl, rfl⟩
theorem y105_x {g : AG} {M : AM} {Y P A V T K H X : Nat} {q s : Int → Int} {b : Int} {x1 : Int} (hSY : ShYard g Y P A V T K H X) (hSV : ShWorks g V P A) (hSP : ShPlan g P) (hSA : ShState g A) (hRP : RepP M P q) (hRA : RepS M A s) (hQ : ValQ q) (hV : Val b q s) (h0 : s 4 ≤ x1 ∧ x1 ≤ 100) (hYd : M Y 6 = 1) :
    Ok 1 105 0 [aR Y, aI x1, aI 0] [] g M (fun o g1 M1 => o = .inr 10 ∧ g1 = am_alloc g 30 0 6 ∧ M1 = M) := by
  have yq0 : 0 ≤ q 0 ∧ q 0 ≤ 4 := Q_0 hQ
  have yq1 : 0 ≤ q 1 ∧ q 1 ≤ 6 := Q_1 hQ
  have ys3 : 0 ≤ s 3 ∧ s 3 ≤ 80 := V_3 hV
  have ys4 : 0 ≤ s 4 ∧ s 4 ≤ 16 := V_4 hV
  refine ok_aloadn (pc' := 1) i105_0 rfl rfl <| ok_cc i105_1 rfl (cl_v o105 m0_132 na99 rfl rfl (bt rfl) (bt rfl) rfl (by rw [ShYard_k0 hSY, o99])) ln99 (pd99 (aR Y)) <| ok_aloadn (pc' := 1) i99_0 rfl rfl <| ok_getfi (v := 1) (pc' := 4) i99_1 o99 gi0_268 (ShYard_k0 hSY) hYd rfl <| ok_kz1 (pc1 := 18) (pc2 := 7) i99_4 (by decide) rfl rfl <| ok_vret i99_18 rt99 <| kt_0 (pc' := 4) rfl <| ok_aloadn (pc' := 5) i105_4 rfl rfl <| ?_
  refine ok_iloadn (pc' := 6) i105_5 rfl rfl <| ok_cc i105_6 rfl (cl_v o105 m0_180 na106 rfl rfl (bt rfl) (bt rfl) rfl (by rw [ShYard_k0 hSY, o106])) ln106 (pd106 (aR Y) (aI x1)) <| ok_iloadn (pc' := 1) i106_0 rfl rfl <| ?_
  refine ok_zlt (pc1 := 15) (pc2 := 4) i106_1 (by omega) rfl rfl (fun h9 => by exfalso; omega) (fun h1 => ?_)
  refine ok_iloadn (pc' := 5) i106_4 rfl rfl <| ok_aloadn (pc' := 6) i106_5 rfl rfl <| ok_getfr (r := A) (pc' := 9) i106_6 o106 gr0_39 (ShYard_k0 hSY) (ShYard_r8 hSY) rfl <| ok_getfi (v := (s 4)) (pc' := 12) i106_9 o106 gi0_138 (ShState_k0 hSA) (RepS_f4 hRA) rfl <| ?_
  refine ok_clt (pc1 := 26) (pc2 := 15) i106_12 (by omega) rfl rfl (fun h9 => by exfalso; omega) (fun h2 => ?_)
  refine ok_throw th106_15 (bt rfl) <| kt_x hh105 <| ?_
  exact ⟨rfl, rfl, rfl⟩
theorem y107 {g : AG} {M : AM} {Y P A V T K H X : Nat} {q s : Int → Int} {b : Int} {x1 : Int} (hSY : ShYard g Y P A V T K H X) (hSV : ShWorks g V P A) (hSP : ShPlan g P) (hSA : ShState g A) (hRP : RepP M P q) (hRA : RepS M A s) (hQ : ValQ q) (hV : Val b q s) (h0 : 0 ≤ x1 ∧ x1 < q 1) (hYd : M Y 6 = 1) :
    Ok 1 107 0 [aR Y, aI x1] [] g M (Rt (some (aI (q (10 + x1)))) g (fun M9 => M9 = M)) := by
  have yq0 : 0 ≤ q 0 ∧ q 0 ≤ 4 := Q_0 hQ
  have yq1 : 0 ≤ q 1 ∧ q 1 ≤ 6 := Q_1 hQ
  have ys3 : 0 ≤ s 3 ∧ s 3 ≤ 80 := V_3 hV
  have ys4 : 0 ≤ s 4 ∧ s 4 ≤ 16 := V_4 hV
  refine ok_aloadn (pc' := 1) i107_0 rfl rfl <| ok_cc i107_1 rfl (cl_v o107 m0_132 na99 rfl rfl (bt rfl) (bt rfl) rfl (by rw [ShYard_k0 hSY, o99])) ln99 (pd99 (aR Y)) <| ok_aloadn (pc' := 1) i99_0 rfl rfl <| ok_getfi (v := 1) (pc' := 4) i99_1 o99 gi0_268 (ShYard_k0 hSY) hYd rfl <| ok_kz1 (pc1 := 18) (pc2 := 7) i99_4 (by decide) rfl rfl <| ok_vret i99_18 rt99 <| kt_0 (pc' := 4) rfl <| ok_aloadn (pc' := 5) i107_4 rfl rfl <| ?_
  refine ok_iloadn (pc' := 6) i107_5 rfl rfl <| ok_cc i107_6 rfl (cl_v o107 m0_186 na108 rfl rfl (bt rfl) (bt rfl) rfl (by rw [ShYard_k0 hSY, o108])) ln108 (pd108 (aR Y) (aI x1)) <| ok_iloadn (pc' := 1) i108_0 rfl rfl <| ?_
  refine ok_zlt (pc1 := 15) (pc2 := 4) i108_1 (by omega) rfl rfl (fun h9 => by exfalso; omega) (fun h1 => ?_)
  refine ok_iloadn (pc' := 5) i108_4 rfl rfl <| ok_aloadn (pc' := 6) i108_5 rfl rfl <| ok_getfr (r := P) (pc' := 9) i108_6 o108 gr0_32 (ShYard_k0 hSY) (ShYard_r7 hSY) rfl <| ok_getfi (v := (q 1)) (pc' := 12) i108_9 o108 gi0_141 (ShPlan_k0 hSP) (RepP_f3 hRP) rfl <| ?_
  refine ok_clt (pc1 := 26) (pc2 := 15) i108_12 (by omega) rfl rfl (fun h2 => ?_) (fun h9 => by exfalso; omega)
  refine ok_vret i108_26 rt108 <| kt_0 (pc' := 9) rfl <| ok_aloadn (pc' := 10) i107_9 rfl rfl <| ok_getfr (r := P) (pc' := 13) i107_10 o107 gr0_32 (ShYard_k0 hSY) (ShYard_r7 hSY) rfl <| ok_getfr (r := (P + 3)) (pc' := 16) i107_13 o107 gr0_189 (ShPlan_k0 hSP) (ShPlan_r4 hSP) rfl <| ok_iloadn (pc' := 17) i107_16 rfl rfl <| ?_
  have z1 : 1 ≤ q (10 + x1) ∧ q (10 + x1) ≤ 6 := Q_10 hQ (i := x1) (by omega) (by omega)
  refine ok_iaload (v := (q (10 + x1))) (pc' := 18) i107_17 (ShPlan_k3 hSP) (by decide) (ShPlan_l3 hSP) (by omega) (RepP_3 hRP (by omega) (by omega)) rfl <| ok_ireti i107_18 rt107 <| ?_
  exact ⟨rfl, rfl, rfl⟩
theorem y109 {g : AG} {M : AM} {Y P A V T K H X : Nat} {q s : Int → Int} {b : Int} {x1 x2 : Int} (hSY : ShYard g Y P A V T K H X) (hSV : ShWorks g V P A) (hSP : ShPlan g P) (hSA : ShState g A) (hRP : RepP M P q) (hRA : RepS M A s) (hQ : ValQ q) (hV : Val b q s) (h0 : 0 ≤ x1 ∧ x1 < q 1) (h1 : 0 ≤ x2 ∧ x2 < q (10 + x1)) (h2 : 1 ≤ q (10 + x1) ∧ q (10 + x1) ≤ 6) (hYd : M Y 6 = 1) :
    Ok 1 109 0 [aR Y, aI x1, aI x2] [] g M (Rt (some (aI (q (16 + ((6 * x1) + x2))))) g (fun M9 => M9 = M)) := by
  have yq0 : 0 ≤ q 0 ∧ q 0 ≤ 4 := Q_0 hQ
  have yq1 : 0 ≤ q 1 ∧ q 1 ≤ 6 := Q_1 hQ
  have ys3 : 0 ≤ s 3 ∧ s 3 ≤ 80 := V_3 hV
  have ys4 : 0 ≤ s 4 ∧ s 4 ≤ 16 := V_4 hV
  refine ok_aloadn (pc' := 1) i109_0 rfl rfl <| ok_cc i109_1 rfl (cl_v o109 m0_132 na99 rfl rfl (bt rfl) (bt rfl) rfl (by rw [ShYard_k0 hSY, o99])) ln99 (pd99 (aR Y)) <| ok_aloadn (pc' := 1) i99_0 rfl rfl <| ok_getfi (v := 1) (pc' := 4) i99_1 o99 gi0_268 (ShYard_k0 hSY) hYd rfl <| ok_kz1 (pc1 := 18) (pc2 := 7) i99_4 (by decide) rfl rfl <| ok_vret i99_18 rt99 <| kt_0 (pc' := 4) rfl <| ok_aloadn (pc' := 5) i109_4 rfl rfl <| ?_
  refine ok_iloadn (pc' := 6) i109_5 rfl rfl <| ok_cc i109_6 rfl (cl_v o109 m0_186 na108 rfl rfl (bt rfl) (bt rfl) rfl (by rw [ShYard_k0 hSY, o108])) ln108 (pd108 (aR Y) (aI x1)) <| ok_iloadn (pc' := 1) i108_0 rfl rfl <| ?_
  refine ok_zlt (pc1 := 15) (pc2 := 4) i108_1 (by omega) rfl rfl (fun h9 => by exfalso; omega) (fun h1 => ?_)
  refine ok_iloadn (pc' := 5) i108_4 rfl rfl <| ok_aloadn (pc' := 6) i108_5 rfl rfl <| ok_getfr (r := P) (pc' := 9) i108_6 o108 gr0_32 (ShYard_k0 hSY) (ShYard_r7 hSY) rfl <| ok_getfi (v := (q 1)) (pc' := 12) i108_9 o108 gi0_141 (ShPlan_k0 hSP) (RepP_f3 hRP) rfl <| ?_
  refine ok_clt (pc1 := 26) (pc2 := 15) i108_12 (by omega) rfl rfl (fun h2 => ?_) (fun h9 => by exfalso; omega)
  refine ok_vret i108_26 rt108 <| kt_0 (pc' := 9) rfl <| ok_iloadn (pc' := 10) i109_9 rfl rfl <| ?_
  refine ok_zlt (pc1 := 26) (pc2 := 13) i109_10 (by omega) rfl rfl (fun h9 => by exfalso; omega) (fun h3 => ?_)
  refine ok_iloadn (pc' := 14) i109_13 rfl rfl <| ok_aloadn (pc' := 15) i109_14 rfl rfl <| ok_getfr (r := P) (pc' := 18) i109_15 o109 gr0_32 (ShYard_k0 hSY) (ShYard_r7 hSY) rfl <| ok_getfr (r := (P + 3)) (pc' := 21) i109_18 o109 gr0_189 (ShPlan_k0 hSP) (ShPlan_r4 hSP) rfl <| ok_iloadn (pc' := 22) i109_21 rfl rfl <| ?_
  have z1 : 1 ≤ q (10 + x1) ∧ q (10 + x1) ≤ 6 := Q_10 hQ (i := x1) (by omega) (by omega)
  refine ok_iaload (v := (q (10 + x1))) (pc' := 23) i109_22 (ShPlan_k3 hSP) (by decide) (ShPlan_l3 hSP) (by omega) (RepP_3 hRP (by omega) (by omega)) rfl <| ?_
  refine ok_clt (pc1 := 36) (pc2 := 26) i109_23 (by omega) rfl rfl (fun h4 => ?_) (fun h9 => by exfalso; omega)
  refine ok_aloadn (pc' := 37) i109_36 rfl rfl <| ok_getfr (r := P) (pc' := 40) i109_37 o109 gr0_32 (ShYard_k0 hSY) (ShYard_r7 hSY) rfl <| ok_getfr (r := (P + 4)) (pc' := 43) i109_40 o109 gr0_194 (ShPlan_k0 hSP) (ShPlan_r5 hSP) rfl <| ok_iloadn (pc' := 44) i109_43 rfl rfl <| ok_aaload (r := (P + 5 + x1.toNat)) (pc' := 45) i109_44 (ShPlan_k4 hSP) (by decide) (ShPlan_l4 hSP) (by omega) (ShPlan_ev4 hSP (by omega) (by omega)) rfl <| ok_iloadn (pc' := 46) i109_45 rfl rfl <| ?_
  have z2 : 1 ≤ q (16 + ((6 * x1) + x2)) ∧ q (16 + ((6 * x1) + x2)) ≤ 200 := Q_16 hQ (w := x1) (i := x2) (by omega) (by omega) (by omega) (by omega)
  refine ok_iaload (v := (q (16 + ((6 * x1) + x2)))) (pc' := 47) i109_46 (ShPlan_kv4 hSP (by omega) (by omega)) (by decide) (ShPlan_lv4 hSP (by omega) (by omega)) (by omega) (RepP_pv hRP (by omega) (by omega) (by omega) (by omega) (by omega)) rfl <| ok_ireti i109_47 rt109 <| ?_
  exact ⟨rfl, rfl, rfl⟩
theorem y109_x {g : AG} {M : AM} {Y P A V T K H X : Nat} {q s : Int → Int} {b : Int} {x1 x2 : Int} (hSY : ShYard g Y P A V T K H X) (hSV : ShWorks g V P A) (hSP : ShPlan g P) (hSA : ShState g A) (hRP : RepP M P q) (hRA : RepS M A s) (hQ : ValQ q) (hV : Val b q s) (h0 : 0 ≤ x1 ∧ x1 < q 1) (h1 : x2 = q (10 + x1)) (h2 : 1 ≤ q (10 + x1) ∧ q (10 + x1) ≤ 6) (hYd : M Y 6 = 1) :
    Ok 1 109 0 [aR Y, aI x1, aI x2] [] g M (fun o g1 M1 => o = .inr 10 ∧ g1 = am_alloc g 30 0 6 ∧ M1 = M) := by
  have yq0 : 0 ≤ q 0 ∧ q 0 ≤ 4 := Q_0 hQ
  have yq1 : 0 ≤ q 1 ∧ q 1 ≤ 6 := Q_1 hQ
  have ys3 : 0 ≤ s 3 ∧ s 3 ≤ 80 := V_3 hV
  have ys4 : 0 ≤ s 4 ∧ s 4 ≤ 16 := V_4 hV
  refine ok_aloadn (pc' := 1) i109_0 rfl rfl <| ok_cc i109_1 rfl (cl_v o109 m0_132 na99 rfl rfl (bt rfl) (bt rfl) rfl (by rw [ShYard_k0 hSY, o99])) ln99 (pd99 (aR Y)) <| ok_aloadn (pc' := 1) i99_0 rfl rfl <| ok_getfi (v := 1) (pc' := 4) i99_1 o99 gi0_268 (ShYard_k0 hSY) hYd rfl <| ok_kz1 (pc1 := 18) (pc2 := 7) i99_4 (by decide) rfl rfl <| ok_vret i99_18 rt99 <| kt_0 (pc' := 4) rfl <| ok_aloadn (pc' := 5) i109_4 rfl rfl <| ?_
  refine ok_iloadn (pc' := 6) i109_5 rfl rfl <| ok_cc i109_6 rfl (cl_v o109 m0_186 na108 rfl rfl (bt rfl) (bt rfl) rfl (by rw [ShYard_k0 hSY, o108])) ln108 (pd108 (aR Y) (aI x1)) <| ok_iloadn (pc' := 1) i108_0 rfl rfl <| ?_
  refine ok_zlt (pc1 := 15) (pc2 := 4) i108_1 (by omega) rfl rfl (fun h9 => by exfalso; omega) (fun h1 => ?_)
  refine ok_iloadn (pc' := 5) i108_4 rfl rfl <| ok_aloadn (pc' := 6) i108_5 rfl rfl <| ok_getfr (r := P) (pc' := 9) i108_6 o108 gr0_32 (ShYard_k0 hSY) (ShYard_r7 hSY) rfl <| ok_getfi (v := (q 1)) (pc' := 12) i108_9 o108 gi0_141 (ShPlan_k0 hSP) (RepP_f3 hRP) rfl <| ?_
  refine ok_clt (pc1 := 26) (pc2 := 15) i108_12 (by omega) rfl rfl (fun h2 => ?_) (fun h9 => by exfalso; omega)
  refine ok_vret i108_26 rt108 <| kt_0 (pc' := 9) rfl <| ok_iloadn (pc' := 10) i109_9 rfl rfl <| ?_
  refine ok_zlt (pc1 := 26) (pc2 := 13) i109_10 (by omega) rfl rfl (fun h9 => by exfalso; omega) (fun h3 => ?_)
  refine ok_iloadn (pc' := 14) i109_13 rfl rfl <| ok_aloadn (pc' := 15) i109_14 rfl rfl <| ok_getfr (r := P) (pc' := 18) i109_15 o109 gr0_32 (ShYard_k0 hSY) (ShYard_r7 hSY) rfl <| ok_getfr (r := (P + 3)) (pc' := 21) i109_18 o109 gr0_189 (ShPlan_k0 hSP) (ShPlan_r4 hSP) rfl <| ok_iloadn (pc' := 22) i109_21 rfl rfl <| ?_
  have z1 : 1 ≤ q (10 + x1) ∧ q (10 + x1) ≤ 6 := Q_10 hQ (i := x1) (by omega) (by omega)
  refine ok_iaload (v := (q (10 + x1))) (pc' := 23) i109_22 (ShPlan_k3 hSP) (by decide) (ShPlan_l3 hSP) (by omega) (RepP_3 hRP (by omega) (by omega)) rfl <| ?_
  refine ok_clt (pc1 := 36) (pc2 := 26) i109_23 (by omega) rfl rfl (fun h9 => by exfalso; omega) (fun h4 => ?_)
  refine ok_throw th109_26 (bt rfl) <| ?_
  exact ⟨rfl, rfl, rfl⟩
theorem y110_0 {g : AG} {M : AM} {Y P A V T K H X : Nat} {q s : Int → Int} {b : Int} (hSY : ShYard g Y P A V T K H X) (hSV : ShWorks g V P A) (hSP : ShPlan g P) (hSA : ShState g A) (hRP : RepP M P q) (hRA : RepS M A s) (hQ : ValQ q) (hV : Val b q s) (hYd : M Y 6 = 1) :
    Ok 1 110 0 [aR Y, aI 0] [] g M (Rt (some (aI (s 1))) g (fun M9 => M9 = M)) := by
  have yq0 : 0 ≤ q 0 ∧ q 0 ≤ 4 := Q_0 hQ
  have yq1 : 0 ≤ q 1 ∧ q 1 ≤ 6 := Q_1 hQ
  have ys3 : 0 ≤ s 3 ∧ s 3 ≤ 80 := V_3 hV
  have ys4 : 0 ≤ s 4 ∧ s 4 ≤ 16 := V_4 hV
  refine ok_aloadn (pc' := 1) i110_0 rfl rfl <| ok_cc i110_1 rfl (cl_v o110 m0_132 na99 rfl rfl (bt rfl) (bt rfl) rfl (by rw [ShYard_k0 hSY, o99])) ln99 (pd99 (aR Y)) <| ok_aloadn (pc' := 1) i99_0 rfl rfl <| ok_getfi (v := 1) (pc' := 4) i99_1 o99 gi0_268 (ShYard_k0 hSY) hYd rfl <| ok_kz1 (pc1 := 18) (pc2 := 7) i99_4 (by decide) rfl rfl <| ok_vret i99_18 rt99 <| kt_0 (pc' := 4) rfl <| ok_iloadn (pc' := 5) i110_4 rfl rfl <| ?_
  refine ok_iconst (pc' := 6) i110_5 rfl <| ok_iconst (pc' := 7) i110_6 rfl <| ok_cc i110_7 rfl (cl_s o110 m0_172 na104 rfl rfl (bt rfl) (bt rfl) rfl) ln104 (pd104 (aI 0) (aI 0) (aI 1)) <| ok_iloadn (pc' := 1) i104_0 rfl rfl <| ok_iloadn (pc' := 2) i104_1 rfl rfl <| ok_kc0 (pc1 := 10) (pc2 := 5) i104_2 (by decide) rfl rfl <| ok_iloadn (pc' := 6) i104_5 rfl rfl <| ok_iloadn (pc' := 7) i104_6 rfl rfl <| ?_
  refine ok_kc1 (pc1 := 21) (pc2 := 10) i104_7 (by decide) rfl rfl <| ok_vret i104_21 rt104 <| kt_0 (pc' := 10) rfl <| ok_aloadn (pc' := 11) i110_10 rfl rfl <| ok_getfr (r := A) (pc' := 14) i110_11 o110 gr0_39 (ShYard_k0 hSY) (ShYard_r8 hSY) rfl <| ok_getfr (r := (A + 1)) (pc' := 17) i110_14 o110 gr0_197 (ShState_k0 hSA) (ShState_r1 hSA) rfl <| ok_iloadn (pc' := 18) i110_17 rfl rfl <| ?_
  have z1 : 0 ≤ s 1 ∧ s 1 ≤ 9 := V_1 hV
  refine ok_iaload (v := (s 1)) (pc' := 19) i110_18 (ShState_k1 hSA) (by decide) (ShState_l1 hSA) (by decide) (RepS_1_0 hRA) rfl <| ok_ireti i110_19 rt110 <| ?_
  exact ⟨rfl, rfl, rfl⟩
theorem y110_1 {g : AG} {M : AM} {Y P A V T K H X : Nat} {q s : Int → Int} {b : Int} (hSY : ShYard g Y P A V T K H X) (hSV : ShWorks g V P A) (hSP : ShPlan g P) (hSA : ShState g A) (hRP : RepP M P q) (hRA : RepS M A s) (hQ : ValQ q) (hV : Val b q s) (hYd : M Y 6 = 1) :
    Ok 1 110 0 [aR Y, aI 1] [] g M (Rt (some (aI (s 2))) g (fun M9 => M9 = M)) := by
  have yq0 : 0 ≤ q 0 ∧ q 0 ≤ 4 := Q_0 hQ
  have yq1 : 0 ≤ q 1 ∧ q 1 ≤ 6 := Q_1 hQ
  have ys3 : 0 ≤ s 3 ∧ s 3 ≤ 80 := V_3 hV
  have ys4 : 0 ≤ s 4 ∧ s 4 ≤ 16 := V_4 hV
  refine ok_aloadn (pc' := 1) i110_0 rfl rfl <| ok_cc i110_1 rfl (cl_v o110 m0_132 na99 rfl rfl (bt rfl) (bt rfl) rfl (by rw [ShYard_k0 hSY, o99])) ln99 (pd99 (aR Y)) <| ok_aloadn (pc' := 1) i99_0 rfl rfl <| ok_getfi (v := 1) (pc' := 4) i99_1 o99 gi0_268 (ShYard_k0 hSY) hYd rfl <| ok_kz1 (pc1 := 18) (pc2 := 7) i99_4 (by decide) rfl rfl <| ok_vret i99_18 rt99 <| kt_0 (pc' := 4) rfl <| ok_iloadn (pc' := 5) i110_4 rfl rfl <| ?_
  refine ok_iconst (pc' := 6) i110_5 rfl <| ok_iconst (pc' := 7) i110_6 rfl <| ok_cc i110_7 rfl (cl_s o110 m0_172 na104 rfl rfl (bt rfl) (bt rfl) rfl) ln104 (pd104 (aI 1) (aI 0) (aI 1)) <| ok_iloadn (pc' := 1) i104_0 rfl rfl <| ok_iloadn (pc' := 2) i104_1 rfl rfl <| ok_kc0 (pc1 := 10) (pc2 := 5) i104_2 (by decide) rfl rfl <| ok_iloadn (pc' := 6) i104_5 rfl rfl <| ok_iloadn (pc' := 7) i104_6 rfl rfl <| ?_
  refine ok_kc1 (pc1 := 21) (pc2 := 10) i104_7 (by decide) rfl rfl <| ok_vret i104_21 rt104 <| kt_0 (pc' := 10) rfl <| ok_aloadn (pc' := 11) i110_10 rfl rfl <| ok_getfr (r := A) (pc' := 14) i110_11 o110 gr0_39 (ShYard_k0 hSY) (ShYard_r8 hSY) rfl <| ok_getfr (r := (A + 1)) (pc' := 17) i110_14 o110 gr0_197 (ShState_k0 hSA) (ShState_r1 hSA) rfl <| ok_iloadn (pc' := 18) i110_17 rfl rfl <| ?_
  have z1 : 1 ≤ s 2 ∧ s 2 ≤ 200 := V_2 hV
  refine ok_iaload (v := (s 2)) (pc' := 19) i110_18 (ShState_k1 hSA) (by decide) (ShState_l1 hSA) (by decide) (RepS_1_1 hRA) rfl <| ok_ireti i110_19 rt110 <| ?_
  exact ⟨rfl, rfl, rfl⟩
theorem y110_x {g : AG} {M : AM} {Y P A V T K H X : Nat} {q s : Int → Int} {b : Int} (hSY : ShYard g Y P A V T K H X) (hSV : ShWorks g V P A) (hSP : ShPlan g P) (hSA : ShState g A) (hRP : RepP M P q) (hRA : RepS M A s) (hQ : ValQ q) (hV : Val b q s) (hYd : M Y 6 = 1) :
    Ok 1 110 0 [aR Y, aI 2] [] g M (fun o g1 M1 => o = .inr 11 ∧ g1 = am_alloc g 30 0 6 ∧ M1 = M) := by
  have yq0 : 0 ≤ q 0 ∧ q 0 ≤ 4 := Q_0 hQ
  have yq1 : 0 ≤ q 1 ∧ q 1 ≤ 6 := Q_1 hQ
  have ys3 : 0 ≤ s 3 ∧ s 3 ≤ 80 := V_3 hV
  have ys4 : 0 ≤ s 4 ∧ s 4 ≤ 16 := V_4 hV
  refine ok_aloadn (pc' := 1) i110_0 rfl rfl <| ok_cc i110_1 rfl (cl_v o110 m0_132 na99 rfl rfl (bt rfl) (bt rfl) rfl (by rw [ShYard_k0 hSY, o99])) ln99 (pd99 (aR Y)) <| ok_aloadn (pc' := 1) i99_0 rfl rfl <| ok_getfi (v := 1) (pc' := 4) i99_1 o99 gi0_268 (ShYard_k0 hSY) hYd rfl <| ok_kz1 (pc1 := 18) (pc2 := 7) i99_4 (by decide) rfl rfl <| ok_vret i99_18 rt99 <| kt_0 (pc' := 4) rfl <| ok_iloadn (pc' := 5) i110_4 rfl rfl <| ?_
  refine ok_iconst (pc' := 6) i110_5 rfl <| ok_iconst (pc' := 7) i110_6 rfl <| ok_cc i110_7 rfl (cl_s o110 m0_172 na104 rfl rfl (bt rfl) (bt rfl) rfl) ln104 (pd104 (aI 2) (aI 0) (aI 1)) <| ok_iloadn (pc' := 1) i104_0 rfl rfl <| ok_iloadn (pc' := 2) i104_1 rfl rfl <| ok_kc0 (pc1 := 10) (pc2 := 5) i104_2 (by decide) rfl rfl <| ok_iloadn (pc' := 6) i104_5 rfl rfl <| ok_iloadn (pc' := 7) i104_6 rfl rfl <| ?_
  refine ok_kc0 (pc1 := 21) (pc2 := 10) i104_7 (by decide) rfl rfl <| ok_throw th104_10 (bt rfl) <| kt_x hh110 <| ?_
  exact ⟨rfl, rfl, rfl⟩
theorem y111 {g : AG} {M : AM} {Y P A V T K H X : Nat} {q s : Int → Int} {b : Int} (hSY : ShYard g Y P A V T K H X) (hSV : ShWorks g V P A) (hSP : ShPlan g P) (hSA : ShState g A) (hRP : RepP M P q) (hRA : RepS M A s) (hQ : ValQ q) (hV : Val b q s) (hYd : M Y 6 = 1) :
    Ok 1 111 0 [aR Y] [] g M (Rt (some (aI (s 0))) g (fun M9 => M9 = M)) := by
  have yq0 : 0 ≤ q 0 ∧ q 0 ≤ 4 := Q_0 hQ
  have yq1 : 0 ≤ q 1 ∧ q 1 ≤ 6 := Q_1 hQ
  have ys3 : 0 ≤ s 3 ∧ s 3 ≤ 80 := V_3 hV
  have ys4 : 0 ≤ s 4 ∧ s 4 ≤ 16 := V_4 hV
  refine ok_aloadn (pc' := 1) i111_0 rfl rfl <| ok_cc i111_1 rfl (cl_v o111 m0_132 na99 rfl rfl (bt rfl) (bt rfl) rfl (by rw [ShYard_k0 hSY, o99])) ln99 (pd99 (aR Y)) <| ok_aloadn (pc' := 1) i99_0 rfl rfl <| ok_getfi (v := 1) (pc' := 4) i99_1 o99 gi0_268 (ShYard_k0 hSY) hYd rfl <| ok_kz1 (pc1 := 18) (pc2 := 7) i99_4 (by decide) rfl rfl <| ok_vret i99_18 rt99 <| kt_0 (pc' := 4) rfl <| ok_aloadn (pc' := 5) i111_4 rfl rfl <| ?_
  refine ok_getfr (r := A) (pc' := 8) i111_5 o111 gr0_39 (ShYard_k0 hSY) (ShYard_r8 hSY) rfl <| ?_
  have z1 : 0 ≤ s 0 ∧ s 0 ≤ 1000000 := V_0 hV
  refine ok_getfi (v := (s 0)) (pc' := 11) i111_8 o111 gi0_200 (ShState_k0 hSA) (RepS_f0 hRA) rfl <| ok_ireti i111_11 rt111 <| ?_
  exact ⟨rfl, rfl, rfl⟩
theorem y111_n {g : AG} {M : AM} {Y P A V T K H X : Nat} {q s : Int → Int} {b : Int} (hSY : ShYard g Y P A V T K H X) (hSV : ShWorks g V P A) (hSP : ShPlan g P) (hSA : ShState g A) (hRP : RepP M P q) (hRA : RepS M A s) (hQ : ValQ q) (hV : Val b q s) (hYd : M Y 6 = 0) :
    Ok 1 111 0 [aR Y] [] g M (fun o g1 M1 => o = .inr 12 ∧ g1 = am_alloc g 30 0 6 ∧ M1 = M) := by
  have yq0 : 0 ≤ q 0 ∧ q 0 ≤ 4 := Q_0 hQ
  have yq1 : 0 ≤ q 1 ∧ q 1 ≤ 6 := Q_1 hQ
  have ys3 : 0 ≤ s 3 ∧ s 3 ≤ 80 := V_3 hV
  have ys4 : 0 ≤ s 4 ∧ s 4 ≤ 16 := V_4 hV
  refine ok_aloadn (pc' := 1) i111_0 rfl rfl <| ok_cc i111_1 rfl (cl_v o111 m0_132 na99 rfl rfl (bt rfl) (bt rfl) rfl (by rw [ShYard_k0 hSY, o99])) ln99 (pd99 (aR Y)) <| ok_aloadn (pc' := 1) i99_0 rfl rfl <| ok_getfi (v := 0) (pc' := 4) i99_1 o99 gi0_268 (ShYard_k0 hSY) hYd rfl <| ok_kz0 (pc1 := 18) (pc2 := 7) i99_4 (by decide) rfl rfl <| ok_throw th99_7 (bt rfl) <| kt_x hh111 <| ?_
  exact ⟨rfl, rfl, rfl⟩
theorem y112 {g : AG} {M : AM} {Y P A V T K H X : Nat} {q s : Int → Int} {b : Int} {x1 : Int} (hSY : ShYard g Y P A V T K H X) (hSV : ShWorks g V P A) (hSP : ShPlan g P) (hSA : ShState g A) (hRP : RepP M P q) (hRA : RepS M A s) (hQ : ValQ q) (hV : Val b q s) (h0 : 1 ≤ x1 ∧ x1 ≤ 200) (hYd : M Y 6 = 1) :
    Ok 2 112 0 [aR Y, aI x1] [] g M (Rt (some (aI (r22 s x1))) g (fun M9 => M9 = M)) := by
  have yq0 : 0 ≤ q 0 ∧ q 0 ≤ 4 := Q_0 hQ
  have yq1 : 0 ≤ q 1 ∧ q 1 ≤ 6 := Q_1 hQ
  have ys3 : 0 ≤ s 3 ∧ s 3 ≤ 80 := V_3 hV
  have ys4 : 0 ≤ s 4 ∧ s 4 ≤ 16 := V_4 hV
  refine ok_aloadn (pc' := 1) i112_0 rfl rfl <| ok_cc i112_1 rfl (cl_v o112 m0_132 na99 rfl rfl (bt rfl) (bt rfl) rfl (by rw [ShYard_k0 hSY, o99])) ln99 (pd99 (aR Y)) <| ok_aloadn (pc' := 1) i99_0 rfl rfl <| ok_getfi (v := 1) (pc' := 4) i99_1 o99 gi0_268 (ShYard_k0 hSY) hYd rfl <| ok_kz1 (pc1 := 18) (pc2 := 7) i99_4 (by decide) rfl rfl <| ok_vret i99_18 rt99 <| kt_0 (pc' := 4) rfl <| ok_iloadn (pc' := 5) i112_4 rfl rfl <| ?_
  refine ok_cc i112_5 rfl (cl_s o112 m0_203 na113 rfl rfl (bt rfl) (bt rfl) rfl) ln113 (pd113 (aI x1)) <| ok_iloadn (pc' := 1) i113_0 rfl rfl <| ok_iconst (pc' := 2) i113_1 rfl <| ok_sipush (v := 200) (pc' := 5) i113_2 rfl rfl <| ok_cc i113_5 rfl (cl_s o113 m0_172 na104 rfl rfl (bt rfl) (bt rfl) rfl) ln104 (pd104 (aI x1) (aI 1) (aI 200)) <| ok_iloadn (pc' := 1) i104_0 rfl rfl <| ok_iloadn (pc' := 2) i104_1 rfl rfl <| ?_
  refine ok_clt (pc1 := 10) (pc2 := 5) i104_2 (by omega) rfl rfl (fun h9 => by exfalso; omega) (fun h1 => ?_)
  refine ok_iloadn (pc' := 6) i104_5 rfl rfl <| ok_iloadn (pc' := 7) i104_6 rfl rfl <| ?_
  refine ok_cle (pc1 := 21) (pc2 := 10) i104_7 (by omega) rfl rfl (fun h2 => ?_) (fun h9 => by exfalso; omega)
  refine ok_vret i104_21 rt104 <| kt_0 (pc' := 8) rfl <| ok_vret i113_8 rt113 <| kt_0 (pc' := 8) rfl <| ok_aloadn (pc' := 9) i112_8 rfl rfl <| ok_getfr (r := A) (pc' := 12) i112_9 o112 gr0_39 (ShYard_k0 hSY) (ShYard_r8 hSY) rfl <| ok_iloadn (pc' := 13) i112_12 rfl rfl <| ok_cp (pc' := 16) (d0 := 0) i112_13 rfl (cl_v o112 m0_206 na22 rfl rfl (bt rfl) (bt rfl) rfl (by rw [ShState_k0 hSA, o22])) ln22 (pd22 (aR A) (aI x1)) (by omega) (t22 (x1 := x1) hSA hRA.toD hV hQ (by omega)) rfl <| ?_
  have z1 : 0 ≤ (r22 s x1) ∧ (r22 s x1) ≤ 144 := x22 (M := M) (x1 := x1) hSA hRA.toD hV hQ (by omega)
  refine ok_ireti i112_16 rt112 <| ?_
  exact ⟨rfl, rfl, rfl⟩
theorem y112_x0 {g : AG} {M : AM} {Y P A V T K H X : Nat} {q s : Int → Int} {b : Int} (hSY : ShYard g Y P A V T K H X) (hSV : ShWorks g V P A) (hSP : ShPlan g P) (hSA : ShState g A) (hRP : RepP M P q) (hRA : RepS M A s) (hQ : ValQ q) (hV : Val b q s) (hYd : M Y 6 = 1) :
    Ok 2 112 0 [aR Y, aI 0] [] g M (fun o g1 M1 => o = .inr 11 ∧ g1 = am_alloc g 30 0 6 ∧ M1 = M) := by
  have yq0 : 0 ≤ q 0 ∧ q 0 ≤ 4 := Q_0 hQ
  have yq1 : 0 ≤ q 1 ∧ q 1 ≤ 6 := Q_1 hQ
  have ys3 : 0 ≤ s 3 ∧ s 3 ≤ 80 := V_3 hV
  have ys4 : 0 ≤ s 4 ∧ s 4 ≤ 16 := V_4 hV
  refine ok_aloadn (pc' := 1) i112_0 rfl rfl <| ok_cc i112_1 rfl (cl_v o112 m0_132 na99 rfl rfl (bt rfl) (bt rfl) rfl (by rw [ShYard_k0 hSY, o99])) ln99 (pd99 (aR Y)) <| ok_aloadn (pc' := 1) i99_0 rfl rfl <| ok_getfi (v := 1) (pc' := 4) i99_1 o99 gi0_268 (ShYard_k0 hSY) hYd rfl <| ok_kz1 (pc1 := 18) (pc2 := 7) i99_4 (by decide) rfl rfl <| ok_vret i99_18 rt99 <| kt_0 (pc' := 4) rfl <| ok_iloadn (pc' := 5) i112_4 rfl rfl <| ?_
  refine ok_cc i112_5 rfl (cl_s o112 m0_203 na113 rfl rfl (bt rfl) (bt rfl) rfl) ln113 (pd113 (aI 0)) <| ok_iloadn (pc' := 1) i113_0 rfl rfl <| ok_iconst (pc' := 2) i113_1 rfl <| ok_sipush (v := 200) (pc' := 5) i113_2 rfl rfl <| ok_cc i113_5 rfl (cl_s o113 m0_172 na104 rfl rfl (bt rfl) (bt rfl) rfl) ln104 (pd104 (aI 0) (aI 1) (aI 200)) <| ok_iloadn (pc' := 1) i104_0 rfl rfl <| ok_iloadn (pc' := 2) i104_1 rfl rfl <| ok_kc1 (pc1 := 10) (pc2 := 5) i104_2 (by decide) rfl rfl <| ?_
  refine ok_throw th104_10 (bt rfl) <| kt_x hh113 <| kt_x hh112 <| ?_
  exact ⟨rfl, rfl, rfl⟩
theorem y112_x1 {g : AG} {M : AM} {Y P A V T K H X : Nat} {q s : Int → Int} {b : Int} (hSY : ShYard g Y P A V T K H X) (hSV : ShWorks g V P A) (hSP : ShPlan g P) (hSA : ShState g A) (hRP : RepP M P q) (hRA : RepS M A s) (hQ : ValQ q) (hV : Val b q s) (hYd : M Y 6 = 1) :
    Ok 2 112 0 [aR Y, aI 201] [] g M (fun o g1 M1 => o = .inr 11 ∧ g1 = am_alloc g 30 0 6 ∧ M1 = M) := by
  have yq0 : 0 ≤ q 0 ∧ q 0 ≤ 4 := Q_0 hQ
  have yq1 : 0 ≤ q 1 ∧ q 1 ≤ 6 := Q_1 hQ
  have ys3 : 0 ≤ s 3 ∧ s 3 ≤ 80 := V_3 hV
  have ys4 : 0 ≤ s 4 ∧ s 4 ≤ 16 := V_4 hV
  refine ok_aloadn (pc' := 1) i112_0 rfl rfl <| ok_cc i112_1 rfl (cl_v o112 m0_132 na99 rfl rfl (bt rfl) (bt rfl) rfl (by rw [ShYard_k0 hSY, o99])) ln99 (pd99 (aR Y)) <| ok_aloadn (pc' := 1) i99_0 rfl rfl <| ok_getfi (v := 1) (pc' := 4) i99_1 o99 gi0_268 (ShYard_k0 hSY) hYd rfl <| ok_kz1 (pc1 := 18) (pc2 := 7) i99_4 (by decide) rfl rfl <| ok_vret i99_18 rt99 <| kt_0 (pc' := 4) rfl <| ok_iloadn (pc' := 5) i112_4 rfl rfl <| ?_
  refine ok_cc i112_5 rfl (cl_s o112 m0_203 na113 rfl rfl (bt rfl) (bt rfl) rfl) ln113 (pd113 (aI 201)) <| ok_iloadn (pc' := 1) i113_0 rfl rfl <| ok_iconst (pc' := 2) i113_1 rfl <| ok_sipush (v := 200) (pc' := 5) i113_2 rfl rfl <| ok_cc i113_5 rfl (cl_s o113 m0_172 na104 rfl rfl (bt rfl) (bt rfl) rfl) ln104 (pd104 (aI 201) (aI 1) (aI 200)) <| ok_iloadn (pc' := 1) i104_0 rfl rfl <| ok_iloadn (pc' := 2) i104_1 rfl rfl <| ok_kc0 (pc1 := 10) (pc2 := 5) i104_2 (by decide) rfl rfl <| ?_
  refine ok_iloadn (pc' := 6) i104_5 rfl rfl <| ok_iloadn (pc' := 7) i104_6 rfl rfl <| ok_kc0 (pc1 := 21) (pc2 := 10) i104_7 (by decide) rfl rfl <| ok_throw th104_10 (bt rfl) <| kt_x hh113 <| kt_x hh112 <| ?_
  exact ⟨rfl, rfl, rfl⟩
theorem y114 {g : AG} {M : AM} {Y P A V T K H X : Nat} {q s : Int → Int} {b : Int} {x1 : Int} (hSY : ShYard g Y P A V T K H X) (hSV : ShWorks g V P A) (hSP : ShPlan g P) (hSA : ShState g A) (hRP : RepP M P q) (hRA : RepS M A s) (hQ : ValQ q) (hV : Val b q s) (h0 : 1 ≤ x1 ∧ x1 ≤ 200) (hYd : M Y 6 = 1) :
    Ok 2 114 0 [aR Y, aI x1] [] g M (Rt (some (aI (s (542 + x1)))) g (fun M9 => M9 = M)) := by
  have yq0 : 0 ≤ q 0 ∧ q 0 ≤ 4 := Q_0 hQ
  have yq1 : 0 ≤ q 1 ∧ q 1 ≤ 6 := Q_1 hQ
  have ys3 : 0 ≤ s 3 ∧ s 3 ≤ 80 := V_3 hV
  have ys4 : 0 ≤ s 4 ∧ s 4 ≤ 16 := V_4 hV
  refine ok_aloadn (pc' := 1) i114_0 rfl rfl <| ok_cc i114_1 rfl (cl_v o114 m0_132 na99 rfl rfl (bt rfl) (bt rfl) rfl (by rw [ShYard_k0 hSY, o99])) ln99 (pd99 (aR Y)) <| ok_aloadn (pc' := 1) i99_0 rfl rfl <| ok_getfi (v := 1) (pc' := 4) i99_1 o99 gi0_268 (ShYard_k0 hSY) hYd rfl <| ok_kz1 (pc1 := 18) (pc2 := 7) i99_4 (by decide) rfl rfl <| ok_vret i99_18 rt99 <| kt_0 (pc' := 4) rfl <| ok_iloadn (pc' := 5) i114_4 rfl rfl <| ?_
  refine ok_cc i114_5 rfl (cl_s o114 m0_203 na113 rfl rfl (bt rfl) (bt rfl) rfl) ln113 (pd113 (aI x1)) <| ok_iloadn (pc' := 1) i113_0 rfl rfl <| ok_iconst (pc' := 2) i113_1 rfl <| ok_sipush (v := 200) (pc' := 5) i113_2 rfl rfl <| ok_cc i113_5 rfl (cl_s o113 m0_172 na104 rfl rfl (bt rfl) (bt rfl) rfl) ln104 (pd104 (aI x1) (aI 1) (aI 200)) <| ok_iloadn (pc' := 1) i104_0 rfl rfl <| ok_iloadn (pc' := 2) i104_1 rfl rfl <| ?_
  refine ok_clt (pc1 := 10) (pc2 := 5) i104_2 (by omega) rfl rfl (fun h9 => by exfalso; omega) (fun h1 => ?_)
  refine ok_iloadn (pc' := 6) i104_5 rfl rfl <| ok_iloadn (pc' := 7) i104_6 rfl rfl <| ?_
  refine ok_cle (pc1 := 21) (pc2 := 10) i104_7 (by omega) rfl rfl (fun h2 => ?_) (fun h9 => by exfalso; omega)
  refine ok_vret i104_21 rt104 <| kt_0 (pc' := 8) rfl <| ok_vret i113_8 rt113 <| kt_0 (pc' := 8) rfl <| ok_aloadn (pc' := 9) i114_8 rfl rfl <| ok_getfr (r := A) (pc' := 12) i114_9 o114 gr0_39 (ShYard_k0 hSY) (ShYard_r8 hSY) rfl <| ok_getfr (r := (A + 17)) (pc' := 15) i114_12 o114 gr0_210 (ShState_k0 hSA) (ShState_r6 hSA) rfl <| ok_iloadn (pc' := 16) i114_15 rfl rfl <| ?_
  have z1 : 0 ≤ s (542 + x1) ∧ s (542 + x1) ≤ 1000000 := V_s hV (i := x1) (by omega) (by omega)
  refine ok_iaload (v := (s (542 + x1))) (pc' := 17) i114_16 (ShState_k17 hSA) (by decide) (ShState_l17 hSA) (by omega) (RepS_17 hRA (by omega) (by omega)) rfl <| ok_ireti i114_17 rt114 <| ?_
  exact ⟨rfl, rfl, rfl⟩
theorem y115_a {g : AG} {M : AM} {Y P A V T K H X : Nat} {q s : Int → Int} {b : Int} {x1 x2 : Int} (hSY : ShYard g Y P A V T K H X) (hSV : ShWorks g V P A) (hSP : ShPlan g P) (hSA : ShState g A) (hRP : RepP M P q) (hRA : RepS M A s) (hQ : ValQ q) (hV : Val b q s) (h0 : 0 ≤ x1 ∧ x1 < s 3) (h1 : 1 ≤ x2 ∧ x2 ≤ 200) (h2 : x2 ≤ s (94 + x1)) (hYd : M Y 6 = 1) :
    Ok 2 115 0 [aR Y, aI x1, aI x2] [] g M (Rt (some (aI (max 0 (((s (94 + x1)) - x2) - (s 1))))) g (fun M9 => M9 = M)) := by
  have yq0 : 0 ≤ q 0 ∧ q 0 ≤ 4 := Q_0 hQ
  have yq1 : 0 ≤ q 1 ∧ q 1 ≤ 6 := Q_1 hQ
  have ys3 : 0 ≤ s 3 ∧ s 3 ≤ 80 := V_3 hV
  have ys4 : 0 ≤ s 4 ∧ s 4 ≤ 16 := V_4 hV
  refine ok_aloadn (pc' := 1) i115_0 rfl rfl <| ok_cc i115_1 rfl (cl_v o115 m0_132 na99 rfl rfl (bt rfl) (bt rfl) rfl (by rw [ShYard_k0 hSY, o99])) ln99 (pd99 (aR Y)) <| ok_aloadn (pc' := 1) i99_0 rfl rfl <| ok_getfi (v := 1) (pc' := 4) i99_1 o99 gi0_268 (ShYard_k0 hSY) hYd rfl <| ok_kz1 (pc1 := 18) (pc2 := 7) i99_4 (by decide) rfl rfl <| ok_vret i99_18 rt99 <| kt_0 (pc' := 4) rfl <| ok_aloadn (pc' := 5) i115_4 rfl rfl <| ?_
  refine ok_iloadn (pc' := 6) i115_5 rfl rfl <| ok_cc i115_6 rfl (cl_v o115 m0_169 na103 rfl rfl (bt rfl) (bt rfl) rfl (by rw [ShYard_k0 hSY, o103])) ln103 (pd103 (aR Y) (aI x1)) <| ok_iloadn (pc' := 1) i103_0 rfl rfl <| ?_
  refine ok_zlt (pc1 := 15) (pc2 := 4) i103_1 (by omega) rfl rfl (fun h9 => by exfalso; omega) (fun h1 => ?_)
  refine ok_iloadn (pc' := 5) i103_4 rfl rfl <| ok_aloadn (pc' := 6) i103_5 rfl rfl <| ok_getfr (r := A) (pc' := 9) i103_6 o103 gr0_39 (ShYard_k0 hSY) (ShYard_r8 hSY) rfl <| ok_getfi (v := (s 3)) (pc' := 12) i103_9 o103 gi0_129 (ShState_k0 hSA) (RepS_f2 hRA) rfl <| ?_
  refine ok_clt (pc1 := 26) (pc2 := 15) i103_12 (by omega) rfl rfl (fun h2 => ?_) (fun h9 => by exfalso; omega)
  refine ok_vret i103_26 rt103 <| kt_0 (pc' := 9) rfl <| ok_iloadn (pc' := 10) i115_9 rfl rfl <| ok_cc i115_10 rfl (cl_s o115 m0_203 na113 rfl rfl (bt rfl) (bt rfl) rfl) ln113 (pd113 (aI x2)) <| ok_iloadn (pc' := 1) i113_0 rfl rfl <| ok_iconst (pc' := 2) i113_1 rfl <| ok_sipush (v := 200) (pc' := 5) i113_2 rfl rfl <| ok_cc i113_5 rfl (cl_s o113 m0_172 na104 rfl rfl (bt rfl) (bt rfl) rfl) ln104 (pd104 (aI x2) (aI 1) (aI 200)) <| ?_
  refine ok_iloadn (pc' := 1) i104_0 rfl rfl <| ok_iloadn (pc' := 2) i104_1 rfl rfl <| ?_
  refine ok_clt (pc1 := 10) (pc2 := 5) i104_2 (by omega) rfl rfl (fun h9 => by exfalso; omega) (fun h3 => ?_)
  refine ok_iloadn (pc' := 6) i104_5 rfl rfl <| ok_iloadn (pc' := 7) i104_6 rfl rfl <| ?_
  refine ok_cle (pc1 := 21) (pc2 := 10) i104_7 (by omega) rfl rfl (fun h4 => ?_) (fun h9 => by exfalso; omega)
  refine ok_vret i104_21 rt104 <| kt_0 (pc' := 8) rfl <| ok_vret i113_8 rt113 <| kt_0 (pc' := 13) rfl <| ok_aloadn (pc' := 14) i115_13 rfl rfl <| ok_getfr (r := V) (pc' := 17) i115_14 o115 gr0_48 (ShYard_k0 hSY) (ShYard_r9 hSY) rfl <| ok_aloadn (pc' := 18) i115_17 rfl rfl <| ok_getfr (r := A) (pc' := 21) i115_18 o115 gr0_39 (ShYard_k0 hSY) (ShYard_r8 hSY) rfl <| ?_
  refine ok_getfr (r := (A + 2)) (pc' := 24) i115_21 o115 gr0_176 (ShState_k0 hSA) (ShState_r3 hSA) rfl <| ok_iconst (pc' := 25) i115_24 rfl <| ok_aaload (r := (A + 4)) (pc' := 26) i115_25 (ShState_k2 hSA) (by decide) (ShState_l2 hSA) (by decide) (ShState_e2_1 hSA) rfl <| ok_iloadn (pc' := 27) i115_26 rfl rfl <| ?_
  have z1 : 0 ≤ s (94 + x1) ∧ s (94 + x1) ≤ 200 := V_d1 hV (i := x1) (by omega) (by omega)
  refine ok_iaload (v := (s (94 + x1))) (pc' := 28) i115_27 (ShState_k4 hSA) (by decide) (ShState_l4 hSA) (by omega) (RepS_4 hRA (by omega) (by omega)) rfl <| ok_iloadn (pc' := 29) i115_28 rfl rfl <| ok_cc i115_29 rfl (cl_v o115 m0_213 na33 rfl rfl (bt rfl) (bt rfl) rfl (by rw [ShWorks_k0 hSV, o33])) ln33 (pd33 (aR V) (aI (s (94 + x1))) (aI x2)) <| ok_iloadn (pc' := 1) i33_0 rfl rfl <| ok_iloadn (pc' := 2) i33_1 rfl rfl <| ?_
  refine ok_cle (pc1 := 9) (pc2 := 5) i33_2 (by omega) rfl rfl (fun h5 => ?_) (fun h9 => by exfalso; omega)
  refine ok_iconst (pc' := 10) i33_9 rfl <| ok_iloadn (pc' := 11) i33_10 rfl rfl <| ok_iloadn (pc' := 12) i33_11 rfl rfl <| ok_isub (v := ((s (94 + x1)) - x2)) (pc' := 13) i33_12 rfl rfl <| ok_aloadn (pc' := 14) i33_13 rfl rfl <| ok_getfr (r := A) (pc' := 17) i33_14 o33 gr8_15 (ShWorks_k0 hSV) (ShWorks_r1 hSV) rfl <| ok_getfr (r := (A + 1)) (pc' := 20) i33_17 o33 gr8_31 (ShState_k0 hSA) (ShState_r1 hSA) rfl <| ok_iconst (pc' := 21) i33_20 rfl <| ?_
  have z2 : 0 ≤ s 1 ∧ s 1 ≤ 9 := V_1 hV
  refine ok_iaload (v := (s 1)) (pc' := 22) i33_21 (ShState_k1 hSA) (by decide) (ShState_l1 hSA) (by decide) (RepS_1_0 hRA) rfl <| ok_isub (v := (((s (94 + x1)) - x2) - (s 1))) (pc' := 23) i33_22 rfl rfl <| ok_max (v := (max 0 (((s (94 + x1)) - x2) - (s 1)))) (pc' := 26) i33_23 o33 m8_34 (by omega) (bt rfl) rfl rfl <| ?_
  have z3 : 0 ≤ (max 0 (((s (94 + x1)) - x2) - (s 1))) ∧ (((s (94 + x1)) - x2) - (s 1)) ≤ (max 0 (((s (94 + x1)) - x2) - (s 1))) := by omega
  have z4 : (max 0 (((s (94 + x1)) - x2) - (s 1))) ≤ 200 := by omega
  refine ok_ireti i33_26 rt33 <| kt_v (pc' := 32) rfl <| ok_ireti i115_32 rt115 <| ?_
  exact ⟨rfl, rfl, rfl⟩
theorem y115_b {g : AG} {M : AM} {Y P A V T K H X : Nat} {q s : Int → Int} {b : Int} {x1 x2 : Int} (hSY : ShYard g Y P A V T K H X) (hSV : ShWorks g V P A) (hSP : ShPlan g P) (hSA : ShState g A) (hRP : RepP M P q) (hRA : RepS M A s) (hQ : ValQ q) (hV : Val b q s) (h0 : 0 ≤ x1 ∧ x1 < s 3) (h1 : 1 ≤ x2 ∧ x2 ≤ 200) (h2 : s (94 + x1) < x2) (hYd : M Y 6 = 1) :
    Ok 2 115 0 [aR Y, aI x1, aI x2] [] g M (Rt (some (aI (-1))) g (fun M9 => M9 = M)) := by
  have yq0 : 0 ≤ q 0 ∧ q 0 ≤ 4 := Q_0 hQ
  have yq1 : 0 ≤ q 1 ∧ q 1 ≤ 6 := Q_1 hQ
  have ys3 : 0 ≤ s 3 ∧ s 3 ≤ 80 := V_3 hV
  have ys4 : 0 ≤ s 4 ∧ s 4 ≤ 16 := V_4 hV
  refine ok_aloadn (pc' := 1) i115_0 rfl rfl <| ok_cc i115_1 rfl (cl_v o115 m0_132 na99 rfl rfl (bt rfl) (bt rfl) rfl (by rw [ShYard_k0 hSY, o99])) ln99 (pd99 (aR Y)) <| ok_aloadn (pc' := 1) i99_0 rfl rfl <| ok_getfi (v := 1) (pc' := 4) i99_1 o99 gi0_268 (ShYard_k0 hSY) hYd rfl <| ok_kz1 (pc1 := 18) (pc2 := 7) i99_4 (by decide) rfl rfl <| ok_vret i99_18 rt99 <| kt_0 (pc' := 4) rfl <| ok_aloadn (pc' := 5) i115_4 rfl rfl <| ?_
  refine ok_iloadn (pc' := 6) i115_5 rfl rfl <| ok_cc i115_6 rfl (cl_v o115 m0_169 na103 rfl rfl (bt rfl) (bt rfl) rfl (by rw [ShYard_k0 hSY, o103])) ln103 (pd103 (aR Y) (aI x1)) <| ok_iloadn (pc' := 1) i103_0 rfl rfl <| ?_
  refine ok_zlt (pc1 := 15) (pc2 := 4) i103_1 (by omega) rfl rfl (fun h9 => by exfalso; omega) (fun h1 => ?_)
  refine ok_iloadn (pc' := 5) i103_4 rfl rfl <| ok_aloadn (pc' := 6) i103_5 rfl rfl <| ok_getfr (r := A) (pc' := 9) i103_6 o103 gr0_39 (ShYard_k0 hSY) (ShYard_r8 hSY) rfl <| ok_getfi (v := (s 3)) (pc' := 12) i103_9 o103 gi0_129 (ShState_k0 hSA) (RepS_f2 hRA) rfl <| ?_
  refine ok_clt (pc1 := 26) (pc2 := 15) i103_12 (by omega) rfl rfl (fun h2 => ?_) (fun h9 => by exfalso; omega)
  refine ok_vret i103_26 rt103 <| kt_0 (pc' := 9) rfl <| ok_iloadn (pc' := 10) i115_9 rfl rfl <| ok_cc i115_10 rfl (cl_s o115 m0_203 na113 rfl rfl (bt rfl) (bt rfl) rfl) ln113 (pd113 (aI x2)) <| ok_iloadn (pc' := 1) i113_0 rfl rfl <| ok_iconst (pc' := 2) i113_1 rfl <| ok_sipush (v := 200) (pc' := 5) i113_2 rfl rfl <| ok_cc i113_5 rfl (cl_s o113 m0_172 na104 rfl rfl (bt rfl) (bt rfl) rfl) ln104 (pd104 (aI x2) (aI 1) (aI 200)) <| ?_
  refine ok_iloadn (pc' := 1) i104_0 rfl rfl <| ok_iloadn (pc' := 2) i104_1 rfl rfl <| ?_
  refine ok_clt (pc1 := 10) (pc2 := 5) i104_2 (by omega) rfl rfl (fun h9 => by exfalso; omega) (fun h3 => ?_)
  refine ok_iloadn (pc' := 6) i104_5 rfl rfl <| ok_iloadn (pc' := 7) i104_6 rfl rfl <| ?_
  refine ok_cle (pc1 := 21) (pc2 := 10) i104_7 (by omega) rfl rfl (fun h4 => ?_) (fun h9 => by exfalso; omega)
  refine ok_vret i104_21 rt104 <| kt_0 (pc' := 8) rfl <| ok_vret i113_8 rt113 <| kt_0 (pc' := 13) rfl <| ok_aloadn (pc' := 14) i115_13 rfl rfl <| ok_getfr (r := V) (pc' := 17) i115_14 o115 gr0_48 (ShYard_k0 hSY) (ShYard_r9 hSY) rfl <| ok_aloadn (pc' := 18) i115_17 rfl rfl <| ok_getfr (r := A) (pc' := 21) i115_18 o115 gr0_39 (ShYard_k0 hSY) (ShYard_r8 hSY) rfl <| ?_
  refine ok_getfr (r := (A + 2)) (pc' := 24) i115_21 o115 gr0_176 (ShState_k0 hSA) (ShState_r3 hSA) rfl <| ok_iconst (pc' := 25) i115_24 rfl <| ok_aaload (r := (A + 4)) (pc' := 26) i115_25 (ShState_k2 hSA) (by decide) (ShState_l2 hSA) (by decide) (ShState_e2_1 hSA) rfl <| ok_iloadn (pc' := 27) i115_26 rfl rfl <| ?_
  have z1 : 0 ≤ s (94 + x1) ∧ s (94 + x1) ≤ 200 := V_d1 hV (i := x1) (by omega) (by omega)
  refine ok_iaload (v := (s (94 + x1))) (pc' := 28) i115_27 (ShState_k4 hSA) (by decide) (ShState_l4 hSA) (by omega) (RepS_4 hRA (by omega) (by omega)) rfl <| ok_iloadn (pc' := 29) i115_28 rfl rfl <| ok_cc i115_29 rfl (cl_v o115 m0_213 na33 rfl rfl (bt rfl) (bt rfl) rfl (by rw [ShWorks_k0 hSV, o33])) ln33 (pd33 (aR V) (aI (s (94 + x1))) (aI x2)) <| ok_iloadn (pc' := 1) i33_0 rfl rfl <| ok_iloadn (pc' := 2) i33_1 rfl rfl <| ?_
  refine ok_cle (pc1 := 9) (pc2 := 5) i33_2 (by omega) rfl rfl (fun h9 => by exfalso; omega) (fun h5 => ?_)
  refine ok_iconst (pc' := 6) i33_5 rfl <| ok_goto (pc' := 26) i33_6 rfl <| ok_ireti i33_26 rt33 <| kt_v (pc' := 32) rfl <| ok_ireti i115_32 rt115 <| ?_
  exact ⟨rfl, rfl, rfl⟩
theorem y116 {g : AG} {M : AM} {Y P A V T K H X : Nat} {q s : Int → Int} {b : Int} {x1 x2 : Int} (hSY : ShYard g Y P A V T K H X) (hSV : ShWorks g V P A) (hSP : ShPlan g P) (hSA : ShState g A) (hRP : RepP M P q) (hRA : RepS M A s) (hQ : ValQ q) (hV : Val b q s) (h0 : 1 ≤ x1 ∧ x1 ≤ 200) (h1 : 0 ≤ x2 ∧ x2 ≤ 2) (hYd : M Y 6 = 1) :
    Ok 2 116 0 [aR Y, aI x1, aI x2] [] g M (Rt (some (aI (r34 s x1 x2))) g (fun M9 => M9 = M)) := by
  have yq0 : 0 ≤ q 0 ∧ q 0 ≤ 4 := Q_0 hQ
  have yq1 : 0 ≤ q 1 ∧ q 1 ≤ 6 := Q_1 hQ
  have ys3 : 0 ≤ s 3 ∧ s 3 ≤ 80 := V_3 hV
  have ys4 : 0 ≤ s 4 ∧ s 4 ≤ 16 := V_4 hV
  refine ok_aloadn (pc' := 1) i116_0 rfl rfl <| ok_cc i116_1 rfl (cl_v o116 m0_132 na99 rfl rfl (bt rfl) (bt rfl) rfl (by rw [ShYard_k0 hSY, o99])) ln99 (pd99 (aR Y)) <| ok_aloadn (pc' := 1) i99_0 rfl rfl <| ok_getfi (v := 1) (pc' := 4) i99_1 o99 gi0_268 (ShYard_k0 hSY) hYd rfl <| ok_kz1 (pc1 := 18) (pc2 := 7) i99_4 (by decide) rfl rfl <| ok_vret i99_18 rt99 <| kt_0 (pc' := 4) rfl <| ok_iloadn (pc' := 5) i116_4 rfl rfl <| ?_
  refine ok_cc i116_5 rfl (cl_s o116 m0_203 na113 rfl rfl (bt rfl) (bt rfl) rfl) ln113 (pd113 (aI x1)) <| ok_iloadn (pc' := 1) i113_0 rfl rfl <| ok_iconst (pc' := 2) i113_1 rfl <| ok_sipush (v := 200) (pc' := 5) i113_2 rfl rfl <| ok_cc i113_5 rfl (cl_s o113 m0_172 na104 rfl rfl (bt rfl) (bt rfl) rfl) ln104 (pd104 (aI x1) (aI 1) (aI 200)) <| ok_iloadn (pc' := 1) i104_0 rfl rfl <| ok_iloadn (pc' := 2) i104_1 rfl rfl <| ?_
  refine ok_clt (pc1 := 10) (pc2 := 5) i104_2 (by omega) rfl rfl (fun h9 => by exfalso; omega) (fun h1 => ?_)
  refine ok_iloadn (pc' := 6) i104_5 rfl rfl <| ok_iloadn (pc' := 7) i104_6 rfl rfl <| ?_
  refine ok_cle (pc1 := 21) (pc2 := 10) i104_7 (by omega) rfl rfl (fun h2 => ?_) (fun h9 => by exfalso; omega)
  refine ok_vret i104_21 rt104 <| kt_0 (pc' := 8) rfl <| ok_vret i113_8 rt113 <| kt_0 (pc' := 8) rfl <| ok_iloadn (pc' := 9) i116_8 rfl rfl <| ok_iconst (pc' := 10) i116_9 rfl <| ok_iconst (pc' := 11) i116_10 rfl <| ok_cc i116_11 rfl (cl_s o116 m0_172 na104 rfl rfl (bt rfl) (bt rfl) rfl) ln104 (pd104 (aI x2) (aI 0) (aI 2)) <| ?_
  refine ok_iloadn (pc' := 1) i104_0 rfl rfl <| ok_iloadn (pc' := 2) i104_1 rfl rfl <| ?_
  refine ok_clt (pc1 := 10) (pc2 := 5) i104_2 (by omega) rfl rfl (fun h9 => by exfalso; omega) (fun h3 => ?_)
  refine ok_iloadn (pc' := 6) i104_5 rfl rfl <| ok_iloadn (pc' := 7) i104_6 rfl rfl <| ?_
  refine ok_cle (pc1 := 21) (pc2 := 10) i104_7 (by omega) rfl rfl (fun h4 => ?_) (fun h9 => by exfalso; omega)
  refine ok_vret i104_21 rt104 <| kt_0 (pc' := 14) rfl <| ok_aloadn (pc' := 15) i116_14 rfl rfl <| ok_getfr (r := V) (pc' := 18) i116_15 o116 gr0_48 (ShYard_k0 hSY) (ShYard_r9 hSY) rfl <| ok_iloadn (pc' := 19) i116_18 rfl rfl <| ok_iloadn (pc' := 20) i116_19 rfl rfl <| ok_cp (pc' := 23) (d0 := 1) i116_20 rfl (cl_v o116 m0_217 na34 rfl rfl (bt rfl) (bt rfl) rfl (by rw [ShWorks_k0 hSV, o34])) ln34 (pd34 (aR V) (aI x1) (aI x2)) (by omega) (t34 (x1 := x1) (x2 := x2) hSV hSP hSA hRP hRA hQ hV (by omega) (by omega)) rfl <| ?_
  have z1 : -1 ≤ (r34 s x1 x2) ∧ (r34 s x1 x2) < s 3 ∧ (r34 s x1 x2) < 80 := x34 (M := M) (x1 := x1) (x2 := x2) hSV hSP hSA hRP hRA hQ hV (by omega) (by omega)
  refine ok_ireti i116_23 rt116 <| ?_
  exact ⟨rfl, rfl, rfl⟩
theorem y116_x {g : AG} {M : AM} {Y P A V T K H X : Nat} {q s : Int → Int} {b : Int} (hSY : ShYard g Y P A V T K H X) (hSV : ShWorks g V P A) (hSP : ShPlan g P) (hSA : ShState g A) (hRP : RepP M P q) (hRA : RepS M A s) (hQ : ValQ q) (hV : Val b q s) (hYd : M Y 6 = 1) :
    Ok 2 116 0 [aR Y, aI 1, aI 3] [] g M (fun o g1 M1 => o = .inr 11 ∧ g1 = am_alloc g 30 0 6 ∧ M1 = M) := by
  have yq0 : 0 ≤ q 0 ∧ q 0 ≤ 4 := Q_0 hQ
  have yq1 : 0 ≤ q 1 ∧ q 1 ≤ 6 := Q_1 hQ
  have ys3 : 0 ≤ s 3 ∧ s 3 ≤ 80 := V_3 hV
  have ys4 : 0 ≤ s 4 ∧ s 4 ≤ 16 := V_4 hV
  refine ok_aloadn (pc' := 1) i116_0 rfl rfl <| ok_cc i116_1 rfl (cl_v o116 m0_132 na99 rfl rfl (bt rfl) (bt rfl) rfl (by rw [ShYard_k0 hSY, o99])) ln99 (pd99 (aR Y)) <| ok_aloadn (pc' := 1) i99_0 rfl rfl <| ok_getfi (v := 1) (pc' := 4) i99_1 o99 gi0_268 (ShYard_k0 hSY) hYd rfl <| ok_kz1 (pc1 := 18) (pc2 := 7) i99_4 (by decide) rfl rfl <| ok_vret i99_18 rt99 <| kt_0 (pc' := 4) rfl <| ok_iloadn (pc' := 5) i116_4 rfl rfl <| ?_
  refine ok_cc i116_5 rfl (cl_s o116 m0_203 na113 rfl rfl (bt rfl) (bt rfl) rfl) ln113 (pd113 (aI 1)) <| ok_iloadn (pc' := 1) i113_0 rfl rfl <| ok_iconst (pc' := 2) i113_1 rfl <| ok_sipush (v := 200) (pc' := 5) i113_2 rfl rfl <| ok_cc i113_5 rfl (cl_s o113 m0_172 na104 rfl rfl (bt rfl) (bt rfl) rfl) ln104 (pd104 (aI 1) (aI 1) (aI 200)) <| ok_iloadn (pc' := 1) i104_0 rfl rfl <| ok_iloadn (pc' := 2) i104_1 rfl rfl <| ok_kc0 (pc1 := 10) (pc2 := 5) i104_2 (by decide) rfl rfl <| ?_
  refine ok_iloadn (pc' := 6) i104_5 rfl rfl <| ok_iloadn (pc' := 7) i104_6 rfl rfl <| ok_kc1 (pc1 := 21) (pc2 := 10) i104_7 (by decide) rfl rfl <| ok_vret i104_21 rt104 <| kt_0 (pc' := 8) rfl <| ok_vret i113_8 rt113 <| kt_0 (pc' := 8) rfl <| ok_iloadn (pc' := 9) i116_8 rfl rfl <| ?_
  refine ok_iconst (pc' := 10) i116_9 rfl <| ok_iconst (pc' := 11) i116_10 rfl <| ok_cc i116_11 rfl (cl_s o116 m0_172 na104 rfl rfl (bt rfl) (bt rfl) rfl) ln104 (pd104 (aI 3) (aI 0) (aI 2)) <| ok_iloadn (pc' := 1) i104_0 rfl rfl <| ok_iloadn (pc' := 2) i104_1 rfl rfl <| ok_kc0 (pc1 := 10) (pc2 := 5) i104_2 (by decide) rfl rfl <| ok_iloadn (pc' := 6) i104_5 rfl rfl <| ok_iloadn (pc' := 7) i104_6 rfl rfl <| ?_
  refine ok_kc0 (pc1 := 21) (pc2 := 10) i104_7 (by decide) rfl rfl <| ok_throw th104_10 (bt rfl) <| kt_x hh116 <| ?_
  exact ⟨rfl, rfl, rfl⟩
theorem y117 {g : AG} {M : AM} {Y P A V T K H X : Nat} {q s : Int → Int} {b : Int} (hSY : ShYard g Y P A V T K H X) (hSV : ShWorks g V P A) (hSP : ShPlan g P) (hSA : ShState g A) (hRP : RepP M P q) (hRA : RepS M A s) (hQ : ValQ q) (hV : Val b q s) (hYd : M Y 6 = 1) :
    Ok 1 117 0 [aR Y] [] g M (Rt (some (aI (r23 s))) g (fun M9 => M9 = M)) := by
  have yq0 : 0 ≤ q 0 ∧ q 0 ≤ 4 := Q_0 hQ
  have yq1 : 0 ≤ q 1 ∧ q 1 ≤ 6 := Q_1 hQ
  have ys3 : 0 ≤ s 3 ∧ s 3 ≤ 80 := V_3 hV
  have ys4 : 0 ≤ s 4 ∧ s 4 ≤ 16 := V_4 hV
  refine ok_aloadn (pc' := 1) i117_0 rfl rfl <| ok_cc i117_1 rfl (cl_v o117 m0_132 na99 rfl rfl (bt rfl) (bt rfl) rfl (by rw [ShYard_k0 hSY, o99])) ln99 (pd99 (aR Y)) <| ok_aloadn (pc' := 1) i99_0 rfl rfl <| ok_getfi (v := 1) (pc' := 4) i99_1 o99 gi0_268 (ShYard_k0 hSY) hYd rfl <| ok_kz1 (pc1 := 18) (pc2 := 7) i99_4 (by decide) rfl rfl <| ok_vret i99_18 rt99 <| kt_0 (pc' := 4) rfl <| ok_aloadn (pc' := 5) i117_4 rfl rfl <| ?_
  refine ok_getfr (r := A) (pc' := 8) i117_5 o117 gr0_39 (ShYard_k0 hSY) (ShYard_r8 hSY) rfl <| ok_cp (pc' := 11) (d0 := 0) i117_8 rfl (cl_v o117 m0_220 na23 rfl rfl (bt rfl) (bt rfl) rfl (by rw [ShState_k0 hSA, o23])) ln23 (pd23 (aR A)) (by omega) (t23 hSA hRA hV hQ) rfl <| ?_
  have z1 : -1 ≤ (r23 s) ∧ (r23 s) < s 3 ∧ (r23 s) < 80 := x23 (M := M) hSA hRA hV hQ
  refine ok_ireti i117_11 rt117 <| ?_
  exact ⟨rfl, rfl, rfl⟩
theorem y120 {g : AG} {M : AM} {Y P A V T K H X : Nat} {q s : Int → Int} {b : Int} (hSY : ShYard g Y P A V T K H X) (hSV : ShWorks g V P A) (hSP : ShPlan g P) (hSA : ShState g A) (hRP : RepP M P q) (hRA : RepS M A s) (hQ : ValQ q) (hV : Val b q s) (hYd : M Y 6 = 1) :
    Ok 1 120 0 [aR Y] [] g M (Rt (some (aI (r24 s 200))) g (fun M9 => M9 = M)) := by
  have yq0 : 0 ≤ q 0 ∧ q 0 ≤ 4 := Q_0 hQ
  have yq1 : 0 ≤ q 1 ∧ q 1 ≤ 6 := Q_1 hQ
  have ys3 : 0 ≤ s 3 ∧ s 3 ≤ 80 := V_3 hV
  have ys4 : 0 ≤ s 4 ∧ s 4 ≤ 16 := V_4 hV
  refine ok_aloadn (pc' := 1) i120_0 rfl rfl <| ok_cc i120_1 rfl (cl_v o120 m0_132 na99 rfl rfl (bt rfl) (bt rfl) rfl (by rw [ShYard_k0 hSY, o99])) ln99 (pd99 (aR Y)) <| ok_aloadn (pc' := 1) i99_0 rfl rfl <| ok_getfi (v := 1) (pc' := 4) i99_1 o99 gi0_268 (ShYard_k0 hSY) hYd rfl <| ok_kz1 (pc1 := 18) (pc2 := 7) i99_4 (by decide) rfl rfl <| ok_vret i99_18 rt99 <| kt_0 (pc' := 4) rfl <| ok_aloadn (pc' := 5) i120_4 rfl rfl <| ?_
  refine ok_getfr (r := A) (pc' := 8) i120_5 o120 gr0_39 (ShYard_k0 hSY) (ShYard_r8 hSY) rfl <| ok_sipush (v := 200) (pc' := 11) i120_8 rfl rfl <| ok_cp (pc' := 14) (d0 := 0) i120_11 rfl (cl_v o120 m0_226 na24 rfl rfl (bt rfl) (bt rfl) rfl (by rw [ShState_k0 hSA, o24])) ln24 (pd24 (aR A) (aI 200)) (by omega) (t24 (x1 := 200) hSA hRA.toD hV hQ (by omega)) rfl <| ?_
  have z1 : -1 ≤ (r24 s 200) ∧ (r24 s 200) < s 4 ∧ (r24 s 200) < 16 := x24 (M := M) (x1 := 200) hSA hRA.toD hV hQ (by omega)
  refine ok_ireti i120_14 rt120 <| ?_
  exact ⟨rfl, rfl, rfl⟩
theorem y122_a {g : AG} {M : AM} {Y P A V T K H X : Nat} {q s : Int → Int} {b : Int} {x1 x2 : Int} (hSY : ShYard g Y P A V T K H X) (hSV : ShWorks g V P A) (hSP : ShPlan g P) (hSA : ShState g A) (hRP : RepP M P q) (hRA : RepS M A s) (hQ : ValQ q) (hV : Val b q s) (h0 : 0 ≤ x1 ∧ x1 < q 1) (h1 : 0 ≤ x2 ∧ x2 < s 3) (h2 : (r37 q s x1 x2) = (-1)) (hYd : M Y 6 = 1) :
    Ok 2 122 0 [aR Y, aI x1, aI x2] [] g M (Rt (some (aI 0)) g (fun M9 => M9 = M)) := by
  have yq0 : 0 ≤ q 0 ∧ q 0 ≤ 4 := Q_0 hQ
  have yq1 : 0 ≤ q 1 ∧ q 1 ≤ 6 := Q_1 hQ
  have ys3 : 0 ≤ s 3 ∧ s 3 ≤ 80 := V_3 hV
  have ys4 : 0 ≤ s 4 ∧ s 4 ≤ 16 := V_4 hV
  refine ok_aloadn (pc' := 1) i122_0 rfl rfl <| ok_cc i122_1 rfl (cl_v o122 m0_132 na99 rfl rfl (bt rfl) (bt rfl) rfl (by rw [ShYard_k0 hSY, o99])) ln99 (pd99 (aR Y)) <| ok_aloadn (pc' := 1) i99_0 rfl rfl <| ok_getfi (v := 1) (pc' := 4) i99_1 o99 gi0_268 (ShYard_k0 hSY) hYd rfl <| ok_kz1 (pc1 := 18) (pc2 := 7) i99_4 (by decide) rfl rfl <| ok_vret i99_18 rt99 <| kt_0 (pc' := 4) rfl <| ok_aloadn (pc' := 5) i122_4 rfl rfl <| ?_
  refine ok_iloadn (pc' := 6) i122_5 rfl rfl <| ok_cc i122_6 rfl (cl_v o122 m0_186 na108 rfl rfl (bt rfl) (bt rfl) rfl (by rw [ShYard_k0 hSY, o108])) ln108 (pd108 (aR Y) (aI x1)) <| ok_iloadn (pc' := 1) i108_0 rfl rfl <| ?_
  refine ok_zlt (pc1 := 15) (pc2 := 4) i108_1 (by omega) rfl rfl (fun h9 => by exfalso; omega) (fun h1 => ?_)
  refine ok_iloadn (pc' := 5) i108_4 rfl rfl <| ok_aloadn (pc' := 6) i108_5 rfl rfl <| ok_getfr (r := P) (pc' := 9) i108_6 o108 gr0_32 (ShYard_k0 hSY) (ShYard_r7 hSY) rfl <| ok_getfi (v := (q 1)) (pc' := 12) i108_9 o108 gi0_141 (ShPlan_k0 hSP) (RepP_f3 hRP) rfl <| ?_
  refine ok_clt (pc1 := 26) (pc2 := 15) i108_12 (by omega) rfl rfl (fun h2 => ?_) (fun h9 => by exfalso; omega)
  refine ok_vret i108_26 rt108 <| kt_0 (pc' := 9) rfl <| ok_aloadn (pc' := 10) i122_9 rfl rfl <| ok_iloadn (pc' := 11) i122_10 rfl rfl <| ok_cc i122_11 rfl (cl_v o122 m0_169 na103 rfl rfl (bt rfl) (bt rfl) rfl (by rw [ShYard_k0 hSY, o103])) ln103 (pd103 (aR Y) (aI x2)) <| ok_iloadn (pc' := 1) i103_0 rfl rfl <| ?_
  refine ok_zlt (pc1 := 15) (pc2 := 4) i103_1 (by omega) rfl rfl (fun h9 => by exfalso; omega) (fun h3 => ?_)
  refine ok_iloadn (pc' := 5) i103_4 rfl rfl <| ok_aloadn (pc' := 6) i103_5 rfl rfl <| ok_getfr (r := A) (pc' := 9) i103_6 o103 gr0_39 (ShYard_k0 hSY) (ShYard_r8 hSY) rfl <| ok_getfi (v := (s 3)) (pc' := 12) i103_9 o103 gi0_129 (ShState_k0 hSA) (RepS_f2 hRA) rfl <| ?_
  refine ok_clt (pc1 := 26) (pc2 := 15) i103_12 (by omega) rfl rfl (fun h4 => ?_) (fun h9 => by exfalso; omega)
  refine ok_vret i103_26 rt103 <| kt_0 (pc' := 14) rfl <| ok_aloadn (pc' := 15) i122_14 rfl rfl <| ok_getfr (r := V) (pc' := 18) i122_15 o122 gr0_48 (ShYard_k0 hSY) (ShYard_r9 hSY) rfl <| ok_iloadn (pc' := 19) i122_18 rfl rfl <| ok_iloadn (pc' := 20) i122_19 rfl rfl <| ok_cp (pc' := 23) (d0 := 1) i122_20 rfl (cl_v o122 m0_229 na37 rfl rfl (bt rfl) (bt rfl) rfl (by rw [ShWorks_k0 hSV, o37])) ln37 (pd37 (aR V) (aI x1) (aI x2)) (by omega) (t37 (x1 := x1) (x2 := x2) hSV hSP hSA hRP hRA hQ hV (by omega) (by omega)) rfl <| ?_
  have z1 : -1 ≤ (r37 q s x1 x2) ∧ (r37 q s x1 x2) ≤ 200 := x37 (M := M) (x1 := x1) (x2 := x2) hSV hSP hSA hRP hRA hQ hV (by omega) (by omega)
  refine ok_iconst (pc' := 24) i122_23 rfl <| ?_
  refine ok_ceq (pc1 := 31) (pc2 := 27) i122_24 (by omega) rfl rfl (fun h5 => ?_) (fun h9 => by exfalso; omega)
  refine ok_iconst (pc' := 32) i122_31 rfl <| ok_iretz i122_32 rt122 (by decide) <| ?_
  exact ⟨rfl, rfl, rfl⟩
theorem y122_b {g : AG} {M : AM} {Y P A V T K H X : Nat} {q s : Int → Int} {b : Int} {x1 x2 : Int} (hSY : ShYard g Y P A V T K H X) (hSV : ShWorks g V P A) (hSP : ShPlan g P) (hSA : ShState g A) (hRP : RepP M P q) (hRA : RepS M A s) (hQ : ValQ q) (hV : Val b q s) (h0 : 0 ≤ x1 ∧ x1 < q 1) (h1 : 0 ≤ x2 ∧ x2 < s 3) (h2 : (r37 q s x1 x2) ≠ (-1)) (hYd : M Y 6 = 1) :
    Ok 2 122 0 [aR Y, aI x1, aI x2] [] g M (Rt (some (aI 1)) g (fun M9 => M9 = M)) := by
  have yq0 : 0 ≤ q 0 ∧ q 0 ≤ 4 := Q_0 hQ
  have yq1 : 0 ≤ q 1 ∧ q 1 ≤ 6 := Q_1 hQ
  have ys3 : 0 ≤ s 3 ∧ s 3 ≤ 80 := V_3 hV
  have ys4 : 0 ≤ s 4 ∧ s 4 ≤ 16 := V_4 hV
  refine ok_aloadn (pc' := 1) i122_0 rfl rfl <| ok_cc i122_1 rfl (cl_v o122 m0_132 na99 rfl rfl (bt rfl) (bt rfl) rfl (by rw [ShYard_k0 hSY, o99])) ln99 (pd99 (aR Y)) <| ok_aloadn (pc' := 1) i99_0 rfl rfl <| ok_getfi (v := 1) (pc' := 4) i99_1 o99 gi0_268 (ShYard_k0 hSY) hYd rfl <| ok_kz1 (pc1 := 18) (pc2 := 7) i99_4 (by decide) rfl rfl <| ok_vret i99_18 rt99 <| kt_0 (pc' := 4) rfl <| ok_aloadn (pc' := 5) i122_4 rfl rfl <| ?_
  refine ok_iloadn (pc' := 6) i122_5 rfl rfl <| ok_cc i122_6 rfl (cl_v o122 m0_186 na108 rfl rfl (bt rfl) (bt rfl) rfl (by rw [ShYard_k0 hSY, o108])) ln108 (pd108 (aR Y) (aI x1)) <| ok_iloadn (pc' := 1) i108_0 rfl rfl <| ?_
  refine ok_zlt (pc1 := 15) (pc2 := 4) i108_1 (by omega) rfl rfl (fun h9 => by exfalso; omega) (fun h1 => ?_)
  refine ok_iloadn (pc' := 5) i108_4 rfl rfl <| ok_aloadn (pc' := 6) i108_5 rfl rfl <| ok_getfr (r := P) (pc' := 9) i108_6 o108 gr0_32 (ShYard_k0 hSY) (ShYard_r7 hSY) rfl <| ok_getfi (v := (q 1)) (pc' := 12) i108_9 o108 gi0_141 (ShPlan_k0 hSP) (RepP_f3 hRP) rfl <| ?_
  refine ok_clt (pc1 := 26) (pc2 := 15) i108_12 (by omega) rfl rfl (fun h2 => ?_) (fun h9 => by exfalso; omega)
  refine ok_vret i108_26 rt108 <| kt_0 (pc' := 9) rfl <| ok_aloadn (pc' := 10) i122_9 rfl rfl <| ok_iloadn (pc' := 11) i122_10 rfl rfl <| ok_cc i122_11 rfl (cl_v o122 m0_169 na103 rfl rfl (bt rfl) (bt rfl) rfl (by rw [ShYard_k0 hSY, o103])) ln103 (pd103 (aR Y) (aI x2)) <| ok_iloadn (pc' := 1) i103_0 rfl rfl <| ?_
  refine ok_zlt (pc1 := 15) (pc2 := 4) i103_1 (by omega) rfl rfl (fun h9 => by exfalso; omega) (fun h3 => ?_)
  refine ok_iloadn (pc' := 5) i103_4 rfl rfl <| ok_aloadn (pc' := 6) i103_5 rfl rfl <| ok_getfr (r := A) (pc' := 9) i103_6 o103 gr0_39 (ShYard_k0 hSY) (ShYard_r8 hSY) rfl <| ok_getfi (v := (s 3)) (pc' := 12) i103_9 o103 gi0_129 (ShState_k0 hSA) (RepS_f2 hRA) rfl <| ?_
  refine ok_clt (pc1 := 26) (pc2 := 15) i103_12 (by omega) rfl rfl (fun h4 => ?_) (fun h9 => by exfalso; omega)
  refine ok_vret i103_26 rt103 <| kt_0 (pc' := 14) rfl <| ok_aloadn (pc' := 15) i122_14 rfl rfl <| ok_getfr (r := V) (pc' := 18) i122_15 o122 gr0_48 (ShYard_k0 hSY) (ShYard_r9 hSY) rfl <| ok_iloadn (pc' := 19) i122_18 rfl rfl <| ok_iloadn (pc' := 20) i122_19 rfl rfl <| ok_cp (pc' := 23) (d0 := 1) i122_20 rfl (cl_v o122 m0_229 na37 rfl rfl (bt rfl) (bt rfl) rfl (by rw [ShWorks_k0 hSV, o37])) ln37 (pd37 (aR V) (aI x1) (aI x2)) (by omega) (t37 (x1 := x1) (x2 := x2) hSV hSP hSA hRP hRA hQ hV (by omega) (by omega)) rfl <| ?_
  have z1 : -1 ≤ (r37 q s x1 x2) ∧ (r37 q s x1 x2) ≤ 200 := x37 (M := M) (x1 := x1) (x2 := x2) hSV hSP hSA hRP hRA hQ hV (by omega) (by omega)
  refine ok_iconst (pc' := 24) i122_23 rfl <| ?_
  refine ok_ceq (pc1 := 31) (pc2 := 27) i122_24 (by omega) rfl rfl (fun h9 => by exfalso; omega) (fun h5 => ?_)
  refine ok_iconst (pc' := 28) i122_27 rfl <| ok_goto (pc' := 32) i122_28 rfl <| ok_iretz i122_32 rt122 (by decide) <| ?_
  exact ⟨rfl, rfl, rfl⟩
theorem y123 {g : AG} {M : AM} {Y P A V T K H X : Nat} {q s : Int → Int} {b : Int} {x1 x2 : Int} (hSY : ShYard g Y P A V T K H X) (hSV : ShWorks g V P A) (hSP : ShPlan g P) (hSA : ShState g A) (hRP : RepP M P q) (hRA : RepS M A s) (hQ : ValQ q) (hV : Val b q s) (h0 : 0 ≤ x1 ∧ x1 < q 1) (h1 : 0 ≤ x2 ∧ x2 < s 3) (hYd : M Y 6 = 1) :
    Ok 2 123 0 [aR Y, aI x1, aI x2] [] g M (Rt (some (aI (r37 q s x1 x2))) g (fun M9 => M9 = M)) := by
  have yq0 : 0 ≤ q 0 ∧ q 0 ≤ 4 := Q_0 hQ
  have yq1 : 0 ≤ q 1 ∧ q 1 ≤ 6 := Q_1 hQ
  have ys3 : 0 ≤ s 3 ∧ s 3 ≤ 80 := V_3 hV
  have ys4 : 0 ≤ s 4 ∧ s 4 ≤ 16 := V_4 hV
  refine ok_aloadn (pc' := 1) i123_0 rfl rfl <| ok_cc i123_1 rfl (cl_v o123 m0_132 na99 rfl rfl (bt rfl) (bt rfl) rfl (by rw [ShYard_k0 hSY, o99])) ln99 (pd99 (aR Y)) <| ok_aloadn (pc' := 1) i99_0 rfl rfl <| ok_getfi (v := 1) (pc' := 4) i99_1 o99 gi0_268 (ShYard_k0 hSY) hYd rfl <| ok_kz1 (pc1 := 18) (pc2 := 7) i99_4 (by decide) rfl rfl <| ok_vret i99_18 rt99 <| kt_0 (pc' := 4) rfl <| ok_aloadn (pc' := 5) i123_4 rfl rfl <| ?_
  refine ok_iloadn (pc' := 6) i123_5 rfl rfl <| ok_cc i123_6 rfl (cl_v o123 m0_186 na108 rfl rfl (bt rfl) (bt rfl) rfl (by rw [ShYard_k0 hSY, o108])) ln108 (pd108 (aR Y) (aI x1)) <| ok_iloadn (pc' := 1) i108_0 rfl rfl <| ?_
  refine ok_zlt (pc1 := 15) (pc2 := 4) i108_1 (by omega) rfl rfl (fun h9 => by exfalso; omega) (fun h1 => ?_)
  refine ok_iloadn (pc' := 5) i108_4 rfl rfl <| ok_aloadn (pc' := 6) i108_5 rfl rfl <| ok_getfr (r := P) (pc' := 9) i108_6 o108 gr0_32 (ShYard_k0 hSY) (ShYard_r7 hSY) rfl <| ok_getfi (v := (q 1)) (pc' := 12) i108_9 o108 gi0_141 (ShPlan_k0 hSP) (RepP_f3 hRP) rfl <| ?_
  refine ok_clt (pc1 := 26) (pc2 := 15) i108_12 (by omega) rfl rfl (fun h2 => ?_) (fun h9 => by exfalso; omega)
  refine ok_vret i108_26 rt108 <| kt_0 (pc' := 9) rfl <| ok_aloadn (pc' := 10) i123_9 rfl rfl <| ok_iloadn (pc' := 11) i123_10 rfl rfl <| ok_cc i123_11 rfl (cl_v o123 m0_169 na103 rfl rfl (bt rfl) (bt rfl) rfl (by rw [ShYard_k0 hSY, o103])) ln103 (pd103 (aR Y) (aI x2)) <| ok_iloadn (pc' := 1) i103_0 rfl rfl <| ?_
  refine ok_zlt (pc1 := 15) (pc2 := 4) i103_1 (by omega) rfl rfl (fun h9 => by exfalso; omega) (fun h3 => ?_)
  refine ok_iloadn (pc' := 5) i103_4 rfl rfl <| ok_aloadn (pc' := 6) i103_5 rfl rfl <| ok_getfr (r := A) (pc' := 9) i103_6 o103 gr0_39 (ShYard_k0 hSY) (ShYard_r8 hSY) rfl <| ok_getfi (v := (s 3)) (pc' := 12) i103_9 o103 gi0_129 (ShState_k0 hSA) (RepS_f2 hRA) rfl <| ?_
  refine ok_clt (pc1 := 26) (pc2 := 15) i103_12 (by omega) rfl rfl (fun h4 => ?_) (fun h9 => by exfalso; omega)
  refine ok_vret i103_26 rt103 <| kt_0 (pc' := 14) rfl <| ok_aloadn (pc' := 15) i123_14 rfl rfl <| ok_getfr (r := V) (pc' := 18) i123_15 o123 gr0_48 (ShYard_k0 hSY) (ShYard_r9 hSY) rfl <| ok_iloadn (pc' := 19) i123_18 rfl rfl <| ok_iloadn (pc' := 20) i123_19 rfl rfl <| ok_cp (pc' := 23) (d0 := 1) i123_20 rfl (cl_v o123 m0_229 na37 rfl rfl (bt rfl) (bt rfl) rfl (by rw [ShWorks_k0 hSV, o37])) ln37 (pd37 (aR V) (aI x1) (aI x2)) (by omega) (t37 (x1 := x1) (x2 := x2) hSV hSP hSA hRP hRA hQ hV (by omega) (by omega)) rfl <| ?_
  have z1 : -1 ≤ (r37 q s x1 x2) ∧ (r37 q s x1 x2) ≤ 200 := x37 (M := M) (x1 := x1) (x2 := x2) hSV hSP hSA hRP hRA hQ hV (by omega) (by omega)
  refine ok_ireti i123_23 rt123 <| ?_
  exact ⟨rfl, rfl, rfl⟩
theorem y124 {g : AG} {M : AM} {Y P A V T K H X : Nat} {q s : Int → Int} {b : Int} {x1 : Int} (hSY : ShYard g Y P A V T K H X) (hSV : ShWorks g V P A) (hSP : ShPlan g P) (hSA : ShState g A) (hRP : RepP M P q) (hRA : RepS M A s) (hQ : ValQ q) (hV : Val b q s) (h0 : 0 ≤ x1 ∧ x1 < q 1) (hYd : M Y 6 = 1) :
    Ok 3 124 0 [aR Y, aI x1] [] g M (Rt (some (aI (r38 q s x1))) g (fun M9 => M9 = M)) := by
  have yq0 : 0 ≤ q 0 ∧ q 0 ≤ 4 := Q_0 hQ
  have yq1 : 0 ≤ q 1 ∧ q 1 ≤ 6 := Q_1 hQ
  have ys3 : 0 ≤ s 3 ∧ s 3 ≤ 80 := V_3 hV
  have ys4 : 0 ≤ s 4 ∧ s 4 ≤ 16 := V_4 hV
  refine ok_aloadn (pc' := 1) i124_0 rfl rfl <| ok_cc i124_1 rfl (cl_v o124 m0_132 na99 rfl rfl (bt rfl) (bt rfl) rfl (by rw [ShYard_k0 hSY, o99])) ln99 (pd99 (aR Y)) <| ok_aloadn (pc' := 1) i99_0 rfl rfl <| ok_getfi (v := 1) (pc' := 4) i99_1 o99 gi0_268 (ShYard_k0 hSY) hYd rfl <| ok_kz1 (pc1 := 18) (pc2 := 7) i99_4 (by decide) rfl rfl <| ok_vret i99_18 rt99 <| kt_0 (pc' := 4) rfl <| ok_aloadn (pc' := 5) i124_4 rfl rfl <| ?_
  refine ok_iloadn (pc' := 6) i124_5 rfl rfl <| ok_cc i124_6 rfl (cl_v o124 m0_186 na108 rfl rfl (bt rfl) (bt rfl) rfl (by rw [ShYard_k0 hSY, o108])) ln108 (pd108 (aR Y) (aI x1)) <| ok_iloadn (pc' := 1) i108_0 rfl rfl <| ?_
  refine ok_zlt (pc1 := 15) (pc2 := 4) i108_1 (by omega) rfl rfl (fun h9 => by exfalso; omega) (fun h1 => ?_)
  refine ok_iloadn (pc' := 5) i108_4 rfl rfl <| ok_aloadn (pc' := 6) i108_5 rfl rfl <| ok_getfr (r := P) (pc' := 9) i108_6 o108 gr0_32 (ShYard_k0 hSY) (ShYard_r7 hSY) rfl <| ok_getfi (v := (q 1)) (pc' := 12) i108_9 o108 gi0_141 (ShPlan_k0 hSP) (RepP_f3 hRP) rfl <| ?_
  refine ok_clt (pc1 := 26) (pc2 := 15) i108_12 (by omega) rfl rfl (fun h2 => ?_) (fun h9 => by exfalso; omega)
  refine ok_vret i108_26 rt108 <| kt_0 (pc' := 9) rfl <| ok_aloadn (pc' := 10) i124_9 rfl rfl <| ok_getfr (r := V) (pc' := 13) i124_10 o124 gr0_48 (ShYard_k0 hSY) (ShYard_r9 hSY) rfl <| ok_iloadn (pc' := 14) i124_13 rfl rfl <| ok_cp (pc' := 17) (d0 := 2) i124_14 rfl (cl_v o124 m0_232 na38 rfl rfl (bt rfl) (bt rfl) rfl (by rw [ShWorks_k0 hSV, o38])) ln38 (pd38 (aR V) (aI x1)) (by omega) (t38 (x1 := x1) hSV hSP hSA hRP hRA hQ hV (by omega)) rfl <| ?_
  have z1 : -1 ≤ (r38 q s x1) ∧ (r38 q s x1) < s 3 ∧ (r38 q s x1) < 80 := x38 (M := M) (x1 := x1) hSV hSP hSA hRP hRA hQ hV (by omega)
  refine ok_ireti i124_17 rt124 <| ?_
  exact ⟨rfl, rfl, rfl⟩
theorem y135_0 {g : AG} {M : AM} {Y P A V T K H X : Nat} {q s : Int → Int} {b : Int} (hSY : ShYard g Y P A V T K H X) (hSV : ShWorks g V P A) (hSP : ShPlan g P) (hSA : ShState g A) (hRP : RepP M P q) (hRA : RepS M A s) (hQ : ValQ q) (hV : Val b q s) (hYd : M Y 6 = 1) :
    Ok 1 135 0 [aR Y, aI 0] [] g M (Rt (some (aI (s 6))) g (fun M9 => M9 = M)) := by
  have yq0 : 0 ≤ q 0 ∧ q 0 ≤ 4 := Q_0 hQ
  have yq1 : 0 ≤ q 1 ∧ q 1 ≤ 6 := Q_1 hQ
  have ys3 : 0 ≤ s 3 ∧ s 3 ≤ 80 := V_3 hV
  have ys4 : 0 ≤ s 4 ∧ s 4 ≤ 16 := V_4 hV
  refine ok_aloadn (pc' := 1) i135_0 rfl rfl <| ok_cc i135_1 rfl (cl_v o135 m0_132 na99 rfl rfl (bt rfl) (bt rfl) rfl (by rw [ShYard_k0 hSY, o99])) ln99 (pd99 (aR Y)) <| ok_aloadn (pc' := 1) i99_0 rfl rfl <| ok_getfi (v := 1) (pc' := 4) i99_1 o99 gi0_268 (ShYard_k0 hSY) hYd rfl <| ok_kz1 (pc1 := 18) (pc2 := 7) i99_4 (by decide) rfl rfl <| ok_vret i99_18 rt99 <| kt_0 (pc' := 4) rfl <| ok_iloadn (pc' := 5) i135_4 rfl rfl <| ?_
  refine ok_iconst (pc' := 6) i135_5 rfl <| ok_bipush (v := 7) (pc' := 8) i135_6 rfl rfl <| ok_cc i135_8 rfl (cl_s o135 m0_172 na104 rfl rfl (bt rfl) (bt rfl) rfl) ln104 (pd104 (aI 0) (aI 0) (aI 7)) <| ok_iloadn (pc' := 1) i104_0 rfl rfl <| ok_iloadn (pc' := 2) i104_1 rfl rfl <| ok_kc0 (pc1 := 10) (pc2 := 5) i104_2 (by decide) rfl rfl <| ok_iloadn (pc' := 6) i104_5 rfl rfl <| ok_iloadn (pc' := 7) i104_6 rfl rfl <| ?_
  refine ok_kc1 (pc1 := 21) (pc2 := 10) i104_7 (by decide) rfl rfl <| ok_vret i104_21 rt104 <| kt_0 (pc' := 11) rfl <| ok_aloadn (pc' := 12) i135_11 rfl rfl <| ok_getfr (r := A) (pc' := 15) i135_12 o135 gr0_39 (ShYard_k0 hSY) (ShYard_r8 hSY) rfl <| ok_getfr (r := (A + 23)) (pc' := 18) i135_15 o135 gr0_265 (ShState_k0 hSA) (ShState_r9 hSA) rfl <| ok_iloadn (pc' := 19) i135_18 rfl rfl <| ok_iaload (v := (s 6)) (pc' := 20) i135_19 (ShState_k23 hSA) (by decide) (ShState_l23 hSA) (by decide) (RepS_23_0 hRA) rfl <| ?_
  refine ok_ireti i135_20 rt135 <| ?_
  exact ⟨rfl, rfl, rfl⟩
theorem y135_1 {g : AG} {M : AM} {Y P A V T K H X : Nat} {q s : Int → Int} {b : Int} (hSY : ShYard g Y P A V T K H X) (hSV : ShWorks g V P A) (hSP : ShPlan g P) (hSA : ShState g A) (hRP : RepP M P q) (hRA : RepS M A s) (hQ : ValQ q) (hV : Val b q s) (hYd : M Y 6 = 1) :
    Ok 1 135 0 [aR Y, aI 1] [] g M (Rt (some (aI (s 7))) g (fun M9 => M9 = M)) := by
  have yq0 : 0 ≤ q 0 ∧ q 0 ≤ 4 := Q_0 hQ
  have yq1 : 0 ≤ q 1 ∧ q 1 ≤ 6 := Q_1 hQ
  have ys3 : 0 ≤ s 3 ∧ s 3 ≤ 80 := V_3 hV
  have ys4 : 0 ≤ s 4 ∧ s 4 ≤ 16 := V_4 hV
  refine ok_aloadn (pc' := 1) i135_0 rfl rfl <| ok_cc i135_1 rfl (cl_v o135 m0_132 na99 rfl rfl (bt rfl) (bt rfl) rfl (by rw [ShYard_k0 hSY, o99])) ln99 (pd99 (aR Y)) <| ok_aloadn (pc' := 1) i99_0 rfl rfl <| ok_getfi (v := 1) (pc' := 4) i99_1 o99 gi0_268 (ShYard_k0 hSY) hYd rfl <| ok_kz1 (pc1 := 18) (pc2 := 7) i99_4 (by decide) rfl rfl <| ok_vret i99_18 rt99 <| kt_0 (pc' := 4) rfl <| ok_iloadn (pc' := 5) i135_4 rfl rfl <| ?_
  refine ok_iconst (pc' := 6) i135_5 rfl <| ok_bipush (v := 7) (pc' := 8) i135_6 rfl rfl <| ok_cc i135_8 rfl (cl_s o135 m0_172 na104 rfl rfl (bt rfl) (bt rfl) rfl) ln104 (pd104 (aI 1) (aI 0) (aI 7)) <| ok_iloadn (pc' := 1) i104_0 rfl rfl <| ok_iloadn (pc' := 2) i104_1 rfl rfl <| ok_kc0 (pc1 := 10) (pc2 := 5) i104_2 (by decide) rfl rfl <| ok_iloadn (pc' := 6) i104_5 rfl rfl <| ok_iloadn (pc' := 7) i104_6 rfl rfl <| ?_
  refine ok_kc1 (pc1 := 21) (pc2 := 10) i104_7 (by decide) rfl rfl <| ok_vret i104_21 rt104 <| kt_0 (pc' := 11) rfl <| ok_aloadn (pc' := 12) i135_11 rfl rfl <| ok_getfr (r := A) (pc' := 15) i135_12 o135 gr0_39 (ShYard_k0 hSY) (ShYard_r8 hSY) rfl <| ok_getfr (r := (A + 23)) (pc' := 18) i135_15 o135 gr0_265 (ShState_k0 hSA) (ShState_r9 hSA) rfl <| ok_iloadn (pc' := 19) i135_18 rfl rfl <| ok_iaload (v := (s 7)) (pc' := 20) i135_19 (ShState_k23 hSA) (by decide) (ShState_l23 hSA) (by decide) (RepS_23_1 hRA) rfl <| ?_
  refine ok_ireti i135_20 rt135 <| ?_
  exact ⟨rfl, rfl, rfl⟩
theorem y135_2 {g : AG} {M : AM} {Y P A V T K H X : Nat} {q s : Int → Int} {b : Int} (hSY : ShYard g Y P A V T K H X) (hSV : ShWorks g V P A) (hSP : ShPlan g P) (hSA : ShState g A) (hRP : RepP M P q) (hRA : RepS M A s) (hQ : ValQ q) (hV : Val b q s) (hYd : M Y 6 = 1) :
    Ok 1 135 0 [aR Y, aI 2] [] g M (Rt (some (aI (s 8))) g (fun M9 => M9 = M)) := by
  have yq0 : 0 ≤ q 0 ∧ q 0 ≤ 4 := Q_0 hQ
  have yq1 : 0 ≤ q 1 ∧ q 1 ≤ 6 := Q_1 hQ
  have ys3 : 0 ≤ s 3 ∧ s 3 ≤ 80 := V_3 hV
  have ys4 : 0 ≤ s 4 ∧ s 4 ≤ 16 := V_4 hV
  refine ok_aloadn (pc' := 1) i135_0 rfl rfl <| ok_cc i135_1 rfl (cl_v o135 m0_132 na99 rfl rfl (bt rfl) (bt rfl) rfl (by rw [ShYard_k0 hSY, o99])) ln99 (pd99 (aR Y)) <| ok_aloadn (pc' := 1) i99_0 rfl rfl <| ok_getfi (v := 1) (pc' := 4) i99_1 o99 gi0_268 (ShYard_k0 hSY) hYd rfl <| ok_kz1 (pc1 := 18) (pc2 := 7) i99_4 (by decide) rfl rfl <| ok_vret i99_18 rt99 <| kt_0 (pc' := 4) rfl <| ok_iloadn (pc' := 5) i135_4 rfl rfl <| ?_
  refine ok_iconst (pc' := 6) i135_5 rfl <| ok_bipush (v := 7) (pc' := 8) i135_6 rfl rfl <| ok_cc i135_8 rfl (cl_s o135 m0_172 na104 rfl rfl (bt rfl) (bt rfl) rfl) ln104 (pd104 (aI 2) (aI 0) (aI 7)) <| ok_iloadn (pc' := 1) i104_0 rfl rfl <| ok_iloadn (pc' := 2) i104_1 rfl rfl <| ok_kc0 (pc1 := 10) (pc2 := 5) i104_2 (by decide) rfl rfl <| ok_iloadn (pc' := 6) i104_5 rfl rfl <| ok_iloadn (pc' := 7) i104_6 rfl rfl <| ?_
  refine ok_kc1 (pc1 := 21) (pc2 := 10) i104_7 (by decide) rfl rfl <| ok_vret i104_21 rt104 <| kt_0 (pc' := 11) rfl <| ok_aloadn (pc' := 12) i135_11 rfl rfl <| ok_getfr (r := A) (pc' := 15) i135_12 o135 gr0_39 (ShYard_k0 hSY) (ShYard_r8 hSY) rfl <| ok_getfr (r := (A + 23)) (pc' := 18) i135_15 o135 gr0_265 (ShState_k0 hSA) (ShState_r9 hSA) rfl <| ok_iloadn (pc' := 19) i135_18 rfl rfl <| ok_iaload (v := (s 8)) (pc' := 20) i135_19 (ShState_k23 hSA) (by decide) (ShState_l23 hSA) (by decide) (RepS_23_2 hRA) rfl <| ?_
  refine ok_ireti i135_20 rt135 <| ?_
  exact ⟨rfl, rfl, rfl⟩
theorem y135_3 {g : AG} {M : AM} {Y P A V T K H X : Nat} {q s : Int → Int} {b : Int} (hSY : ShYard g Y P A V T K H X) (hSV : ShWorks g V P A) (hSP : ShPlan g P) (hSA : ShState g A) (hRP : RepP M P q) (hRA : RepS M A s) (hQ : ValQ q) (hV : Val b q s) (hYd : M Y 6 = 1) :
    Ok 1 135 0 [aR Y, aI 3] [] g M (Rt (some (aI (s 9))) g (fun M9 => M9 = M)) := by
  have yq0 : 0 ≤ q 0 ∧ q 0 ≤ 4 := Q_0 hQ
  have yq1 : 0 ≤ q 1 ∧ q 1 ≤ 6 := Q_1 hQ
  have ys3 : 0 ≤ s 3 ∧ s 3 ≤ 80 := V_3 hV
  have ys4 : 0 ≤ s 4 ∧ s 4 ≤ 16 := V_4 hV
  refine ok_aloadn (pc' := 1) i135_0 rfl rfl <| ok_cc i135_1 rfl (cl_v o135 m0_132 na99 rfl rfl (bt rfl) (bt rfl) rfl (by rw [ShYard_k0 hSY, o99])) ln99 (pd99 (aR Y)) <| ok_aloadn (pc' := 1) i99_0 rfl rfl <| ok_getfi (v := 1) (pc' := 4) i99_1 o99 gi0_268 (ShYard_k0 hSY) hYd rfl <| ok_kz1 (pc1 := 18) (pc2 := 7) i99_4 (by decide) rfl rfl <| ok_vret i99_18 rt99 <| kt_0 (pc' := 4) rfl <| ok_iloadn (pc' := 5) i135_4 rfl rfl <| ?_
  refine ok_iconst (pc' := 6) i135_5 rfl <| ok_bipush (v := 7) (pc' := 8) i135_6 rfl rfl <| ok_cc i135_8 rfl (cl_s o135 m0_172 na104 rfl rfl (bt rfl) (bt rfl) rfl) ln104 (pd104 (aI 3) (aI 0) (aI 7)) <| ok_iloadn (pc' := 1) i104_0 rfl rfl <| ok_iloadn (pc' := 2) i104_1 rfl rfl <| ok_kc0 (pc1 := 10) (pc2 := 5) i104_2 (by decide) rfl rfl <| ok_iloadn (pc' := 6) i104_5 rfl rfl <| ok_iloadn (pc' := 7) i104_6 rfl rfl <| ?_
  refine ok_kc1 (pc1 := 21) (pc2 := 10) i104_7 (by decide) rfl rfl <| ok_vret i104_21 rt104 <| kt_0 (pc' := 11) rfl <| ok_aloadn (pc' := 12) i135_11 rfl rfl <| ok_getfr (r := A) (pc' := 15) i135_12 o135 gr0_39 (ShYard_k0 hSY) (ShYard_r8 hSY) rfl <| ok_getfr (r := (A + 23)) (pc' := 18) i135_15 o135 gr0_265 (ShState_k0 hSA) (ShState_r9 hSA) rfl <| ok_iloadn (pc' := 19) i135_18 rfl rfl <| ok_iaload (v := (s 9)) (pc' := 20) i135_19 (ShState_k23 hSA) (by decide) (ShState_l23 hSA) (by decide) (RepS_23_3 hRA) rfl <| ?_
  refine ok_ireti i135_20 rt135 <| ?_
  exact ⟨rfl, rfl, rfl⟩
theorem y135_4 {g : AG} {M : AM} {Y P A V T K H X : Nat} {q s : Int → Int} {b : Int} (hSY : ShYard g Y P A V T K H X) (hSV : ShWorks g V P A) (hSP : ShPlan g P) (hSA : ShState g A) (hRP : RepP M P q) (hRA : RepS M A s) (hQ : ValQ q) (hV : Val b q s) (hYd : M Y 6 = 1) :
    Ok 1 135 0 [aR Y, aI 4] [] g M (Rt (some (aI (s 10))) g (fun M9 => M9 = M)) := by
  have yq0 : 0 ≤ q 0 ∧ q 0 ≤ 4 := Q_0 hQ
  have yq1 : 0 ≤ q 1 ∧ q 1 ≤ 6 := Q_1 hQ
  have ys3 : 0 ≤ s 3 ∧ s 3 ≤ 80 := V_3 hV
  have ys4 : 0 ≤ s 4 ∧ s 4 ≤ 16 := V_4 hV
  refine ok_aloadn (pc' := 1) i135_0 rfl rfl <| ok_cc i135_1 rfl (cl_v o135 m0_132 na99 rfl rfl (bt rfl) (bt rfl) rfl (by rw [ShYard_k0 hSY, o99])) ln99 (pd99 (aR Y)) <| ok_aloadn (pc' := 1) i99_0 rfl rfl <| ok_getfi (v := 1) (pc' := 4) i99_1 o99 gi0_268 (ShYard_k0 hSY) hYd rfl <| ok_kz1 (pc1 := 18) (pc2 := 7) i99_4 (by decide) rfl rfl <| ok_vret i99_18 rt99 <| kt_0 (pc' := 4) rfl <| ok_iloadn (pc' := 5) i135_4 rfl rfl <| ?_
  refine ok_iconst (pc' := 6) i135_5 rfl <| ok_bipush (v := 7) (pc' := 8) i135_6 rfl rfl <| ok_cc i135_8 rfl (cl_s o135 m0_172 na104 rfl rfl (bt rfl) (bt rfl) rfl) ln104 (pd104 (aI 4) (aI 0) (aI 7)) <| ok_iloadn (pc' := 1) i104_0 rfl rfl <| ok_iloadn (pc' := 2) i104_1 rfl rfl <| ok_kc0 (pc1 := 10) (pc2 := 5) i104_2 (by decide) rfl rfl <| ok_iloadn (pc' := 6) i104_5 rfl rfl <| ok_iloadn (pc' := 7) i104_6 rfl rfl <| ?_
  refine ok_kc1 (pc1 := 21) (pc2 := 10) i104_7 (by decide) rfl rfl <| ok_vret i104_21 rt104 <| kt_0 (pc' := 11) rfl <| ok_aloadn (pc' := 12) i135_11 rfl rfl <| ok_getfr (r := A) (pc' := 15) i135_12 o135 gr0_39 (ShYard_k0 hSY) (ShYard_r8 hSY) rfl <| ok_getfr (r := (A + 23)) (pc' := 18) i135_15 o135 gr0_265 (ShState_k0 hSA) (ShState_r9 hSA) rfl <| ok_iloadn (pc' := 19) i135_18 rfl rfl <| ok_iaload (v := (s 10)) (pc' := 20) i135_19 (ShState_k23 hSA) (by decide) (ShState_l23 hSA) (by decide) (RepS_23_4 hRA) rfl <| ?_
  refine ok_ireti i135_20 rt135 <| ?_
  exact ⟨rfl, rfl, rfl⟩
theorem y135_5 {g : AG} {M : AM} {Y P A V T K H X : Nat} {q s : Int → Int} {b : Int} (hSY : ShYard g Y P A V T K H X) (hSV : ShWorks g V P A) (hSP : ShPlan g P) (hSA : ShState g A) (hRP : RepP M P q) (hRA : RepS M A s) (hQ : ValQ q) (hV : Val b q s) (hYd : M Y 6 = 1) :
    Ok 1 135 0 [aR Y, aI 5] [] g M (Rt (some (aI (s 11))) g (fun M9 => M9 = M)) := by
  have yq0 : 0 ≤ q 0 ∧ q 0 ≤ 4 := Q_0 hQ
  have yq1 : 0 ≤ q 1 ∧ q 1 ≤ 6 := Q_1 hQ
  have ys3 : 0 ≤ s 3 ∧ s 3 ≤ 80 := V_3 hV
  have ys4 : 0 ≤ s 4 ∧ s 4 ≤ 16 := V_4 hV
  refine ok_aloadn (pc' := 1) i135_0 rfl rfl <| ok_cc i135_1 rfl (cl_v o135 m0_132 na99 rfl rfl (bt rfl) (bt rfl) rfl (by rw [ShYard_k0 hSY, o99])) ln99 (pd99 (aR Y)) <| ok_aloadn (pc' := 1) i99_0 rfl rfl <| ok_getfi (v := 1) (pc' := 4) i99_1 o99 gi0_268 (ShYard_k0 hSY) hYd rfl <| ok_kz1 (pc1 := 18) (pc2 := 7) i99_4 (by decide) rfl rfl <| ok_vret i99_18 rt99 <| kt_0 (pc' := 4) rfl <| ok_iloadn (pc' := 5) i135_4 rfl rfl <| ?_
  refine ok_iconst (pc' := 6) i135_5 rfl <| ok_bipush (v := 7) (pc' := 8) i135_6 rfl rfl <| ok_cc i135_8 rfl (cl_s o135 m0_172 na104 rfl rfl (bt rfl) (bt rfl) rfl) ln104 (pd104 (aI 5) (aI 0) (aI 7)) <| ok_iloadn (pc' := 1) i104_0 rfl rfl <| ok_iloadn (pc' := 2) i104_1 rfl rfl <| ok_kc0 (pc1 := 10) (pc2 := 5) i104_2 (by decide) rfl rfl <| ok_iloadn (pc' := 6) i104_5 rfl rfl <| ok_iloadn (pc' := 7) i104_6 rfl rfl <| ?_
  refine ok_kc1 (pc1 := 21) (pc2 := 10) i104_7 (by decide) rfl rfl <| ok_vret i104_21 rt104 <| kt_0 (pc' := 11) rfl <| ok_aloadn (pc' := 12) i135_11 rfl rfl <| ok_getfr (r := A) (pc' := 15) i135_12 o135 gr0_39 (ShYard_k0 hSY) (ShYard_r8 hSY) rfl <| ok_getfr (r := (A + 23)) (pc' := 18) i135_15 o135 gr0_265 (ShState_k0 hSA) (ShState_r9 hSA) rfl <| ok_iloadn (pc' := 19) i135_18 rfl rfl <| ok_iaload (v := (s 11)) (pc' := 20) i135_19 (ShState_k23 hSA) (by decide) (ShState_l23 hSA) (by decide) (RepS_23_5 hRA) rfl <| ?_
  refine ok_ireti i135_20 rt135 <| ?_
  exact ⟨rfl, rfl, rfl⟩
theorem y135_6 {g : AG} {M : AM} {Y P A V T K H X : Nat} {q s : Int → Int} {b : Int} (hSY : ShYard g Y P A V T K H X) (hSV : ShWorks g V P A) (hSP : ShPlan g P) (hSA : ShState g A) (hRP : RepP M P q) (hRA : RepS M A s) (hQ : ValQ q) (hV : Val b q s) (hYd : M Y 6 = 1) :
    Ok 1 135 0 [aR Y, aI 6] [] g M (Rt (some (aI (s 12))) g (fun M9 => M9 = M)) := by
  have yq0 : 0 ≤ q 0 ∧ q 0 ≤ 4 := Q_0 hQ
  have yq1 : 0 ≤ q 1 ∧ q 1 ≤ 6 := Q_1 hQ
  have ys3 : 0 ≤ s 3 ∧ s 3 ≤ 80 := V_3 hV
  have ys4 : 0 ≤ s 4 ∧ s 4 ≤ 16 := V_4 hV
  refine ok_aloadn (pc' := 1) i135_0 rfl rfl <| ok_cc i135_1 rfl (cl_v o135 m0_132 na99 rfl rfl (bt rfl) (bt rfl) rfl (by rw [ShYard_k0 hSY, o99])) ln99 (pd99 (aR Y)) <| ok_aloadn (pc' := 1) i99_0 rfl rfl <| ok_getfi (v := 1) (pc' := 4) i99_1 o99 gi0_268 (ShYard_k0 hSY) hYd rfl <| ok_kz1 (pc1 := 18) (pc2 := 7) i99_4 (by decide) rfl rfl <| ok_vret i99_18 rt99 <| kt_0 (pc' := 4) rfl <| ok_iloadn (pc' := 5) i135_4 rfl rfl <| ?_
  refine ok_iconst (pc' := 6) i135_5 rfl <| ok_bipush (v := 7) (pc' := 8) i135_6 rfl rfl <| ok_cc i135_8 rfl (cl_s o135 m0_172 na104 rfl rfl (bt rfl) (bt rfl) rfl) ln104 (pd104 (aI 6) (aI 0) (aI 7)) <| ok_iloadn (pc' := 1) i104_0 rfl rfl <| ok_iloadn (pc' := 2) i104_1 rfl rfl <| ok_kc0 (pc1 := 10) (pc2 := 5) i104_2 (by decide) rfl rfl <| ok_iloadn (pc' := 6) i104_5 rfl rfl <| ok_iloadn (pc' := 7) i104_6 rfl rfl <| ?_
  refine ok_kc1 (pc1 := 21) (pc2 := 10) i104_7 (by decide) rfl rfl <| ok_vret i104_21 rt104 <| kt_0 (pc' := 11) rfl <| ok_aloadn (pc' := 12) i135_11 rfl rfl <| ok_getfr (r := A) (pc' := 15) i135_12 o135 gr0_39 (ShYard_k0 hSY) (ShYard_r8 hSY) rfl <| ok_getfr (r := (A + 23)) (pc' := 18) i135_15 o135 gr0_265 (ShState_k0 hSA) (ShState_r9 hSA) rfl <| ok_iloadn (pc' := 19) i135_18 rfl rfl <| ok_iaload (v := (s 12)) (pc' := 20) i135_19 (ShState_k23 hSA) (by decide) (ShState_l23 hSA) (by decide) (RepS_23_6 hRA) rfl <| ?_
  refine ok_ireti i135_20 rt135 <| ?_
  exact ⟨rfl, rfl, rfl⟩
theorem y135_7 {g : AG} {M : AM} {Y P A V T K H X : Nat} {q s : Int → Int} {b : Int} (hSY : ShYard g Y P A V T K H X) (hSV : ShWorks g V P A) (hSP : ShPlan g P) (hSA : ShState g A) (hRP : RepP M P q) (hRA : RepS M A s) (hQ : ValQ q) (hV : Val b q s) (hYd : M Y 6 = 1) :
    Ok 1 135 0 [aR Y, aI 7] [] g M (Rt (some (aI (s 13))) g (fun M9 => M9 = M)) := by
  have yq0 : 0 ≤ q 0 ∧ q 0 ≤ 4 := Q_0 hQ
  have yq1 : 0 ≤ q 1 ∧ q 1 ≤ 6 := Q_1 hQ
  have ys3 : 0 ≤ s 3 ∧ s 3 ≤ 80 := V_3 hV
  have ys4 : 0 ≤ s 4 ∧ s 4 ≤ 16 := V_4 hV
  refine ok_aloadn (pc' := 1) i135_0 rfl rfl <| ok_cc i135_1 rfl (cl_v o135 m0_132 na99 rfl rfl (bt rfl) (bt rfl) rfl (by rw [ShYard_k0 hSY, o99])) ln99 (pd99 (aR Y)) <| ok_aloadn (pc' := 1) i99_0 rfl rfl <| ok_getfi (v := 1) (pc' := 4) i99_1 o99 gi0_268 (ShYard_k0 hSY) hYd rfl <| ok_kz1 (pc1 := 18) (pc2 := 7) i99_4 (by decide) rfl rfl <| ok_vret i99_18 rt99 <| kt_0 (pc' := 4) rfl <| ok_iloadn (pc' := 5) i135_4 rfl rfl <| ?_
  refine ok_iconst (pc' := 6) i135_5 rfl <| ok_bipush (v := 7) (pc' := 8) i135_6 rfl rfl <| ok_cc i135_8 rfl (cl_s o135 m0_172 na104 rfl rfl (bt rfl) (bt rfl) rfl) ln104 (pd104 (aI 7) (aI 0) (aI 7)) <| ok_iloadn (pc' := 1) i104_0 rfl rfl <| ok_iloadn (pc' := 2) i104_1 rfl rfl <| ok_kc0 (pc1 := 10) (pc2 := 5) i104_2 (by decide) rfl rfl <| ok_iloadn (pc' := 6) i104_5 rfl rfl <| ok_iloadn (pc' := 7) i104_6 rfl rfl <| ?_
  refine ok_kc1 (pc1 := 21) (pc2 := 10) i104_7 (by decide) rfl rfl <| ok_vret i104_21 rt104 <| kt_0 (pc' := 11) rfl <| ok_aloadn (pc' := 12) i135_11 rfl rfl <| ok_getfr (r := A) (pc' := 15) i135_12 o135 gr0_39 (ShYard_k0 hSY) (ShYard_r8 hSY) rfl <| ok_getfr (r := (A + 23)) (pc' := 18) i135_15 o135 gr0_265 (ShState_k0 hSA) (ShState_r9 hSA) rfl <| ok_iloadn (pc' := 19) i135_18 rfl rfl <| ok_iaload (v := (s 13)) (pc' := 20) i135_19 (ShState_k23 hSA) (by decide) (ShState_l23 hSA) (by decide) (RepS_23_7 hRA) rfl <| ?_
  refine ok_ireti i135_20 rt135 <| ?_
  exact ⟨rfl, rfl, rfl⟩
theorem y135_x {g : AG} {M : AM} {Y P A V T K H X : Nat} {q s : Int → Int} {b : Int} (hSY : ShYard g Y P A V T K H X) (hSV : ShWorks g V P A) (hSP : ShPlan g P) (hSA : ShState g A) (hRP : RepP M P q) (hRA : RepS M A s) (hQ : ValQ q) (hV : Val b q s) (hYd : M Y 6 = 1) :
    Ok 1 135 0 [aR Y, aI 8] [] g M (fun o g1 M1 => o = .inr 11 ∧ g1 = am_alloc g 30 0 6 ∧ M1 = M) := by
  have yq0 : 0 ≤ q 0 ∧ q 0 ≤ 4 := Q_0 hQ
  have yq1 : 0 ≤ q 1 ∧ q 1 ≤ 6 := Q_1 hQ
  have ys3 : 0 ≤ s 3 ∧ s 3 ≤ 80 := V_3 hV
  have ys4 : 0 ≤ s 4 ∧ s 4 ≤ 16 := V_4 hV
  refine ok_aloadn (pc' := 1) i135_0 rfl rfl <| ok_cc i135_1 rfl (cl_v o135 m0_132 na99 rfl rfl (bt rfl) (bt rfl) rfl (by rw [ShYard_k0 hSY, o99])) ln99 (pd99 (aR Y)) <| ok_aloadn (pc' := 1) i99_0 rfl rfl <| ok_getfi (v := 1) (pc' := 4) i99_1 o99 gi0_268 (ShYard_k0 hSY) hYd rfl <| ok_kz1 (pc1 := 18) (pc2 := 7) i99_4 (by decide) rfl rfl <| ok_vret i99_18 rt99 <| kt_0 (pc' := 4) rfl <| ok_iloadn (pc' := 5) i135_4 rfl rfl <| ?_
  refine ok_iconst (pc' := 6) i135_5 rfl <| ok_bipush (v := 7) (pc' := 8) i135_6 rfl rfl <| ok_cc i135_8 rfl (cl_s o135 m0_172 na104 rfl rfl (bt rfl) (bt rfl) rfl) ln104 (pd104 (aI 8) (aI 0) (aI 7)) <| ok_iloadn (pc' := 1) i104_0 rfl rfl <| ok_iloadn (pc' := 2) i104_1 rfl rfl <| ok_kc0 (pc1 := 10) (pc2 := 5) i104_2 (by decide) rfl rfl <| ok_iloadn (pc' := 6) i104_5 rfl rfl <| ok_iloadn (pc' := 7) i104_6 rfl rfl <| ?_
  refine ok_kc0 (pc1 := 21) (pc2 := 10) i104_7 (by decide) rfl rfl <| ok_throw th104_10 (bt rfl) <| kt_x hh135 <| ?_
  exact ⟨rfl, rfl, rfl⟩
theorem y138_0 {g : AG} {M : AM} {Y P A V T K H X : Nat} {q s : Int → Int} {b : Int} {x1 : Int} (hSY : ShYard g Y P A V T K H X) (hSV : ShWorks g V P A) (hSP : ShPlan g P) (hSA : ShState g A) (hRP : RepP M P q) (hRA : RepS M A s) (hQ : ValQ q) (hV : Val b q s) (h0 : 0 ≤ x1 ∧ x1 < s 5) (h1 : 0 ≤ s 5 ∧ s 5 ≤ 60) (hYd : M Y 6 = 1) :
    Ok 1 138 0 [aR Y, aI x1, aI 0] [] g M (Rt (some (aI (s (743 + (4 * x1))))) g (fun M9 => M9 = M)) := by
  have yq0 : 0 ≤ q 0 ∧ q 0 ≤ 4 := Q_0 hQ
  have yq1 : 0 ≤ q 1 ∧ q 1 ≤ 6 := Q_1 hQ
  have ys3 : 0 ≤ s 3 ∧ s 3 ≤ 80 := V_3 hV
  have ys4 : 0 ≤ s 4 ∧ s 4 ≤ 16 := V_4 hV
  refine ok_aloadn (pc' := 1) i138_0 rfl rfl <| ok_cc i138_1 rfl (cl_v o138 m0_132 na99 rfl rfl (bt rfl) (bt rfl) rfl (by rw [ShYard_k0 hSY, o99])) ln99 (pd99 (aR Y)) <| ok_aloadn (pc' := 1) i99_0 rfl rfl <| ok_getfi (v := 1) (pc' := 4) i99_1 o99 gi0_268 (ShYard_k0 hSY) hYd rfl <| ok_kz1 (pc1 := 18) (pc2 := 7) i99_4 (by decide) rfl rfl <| ok_vret i99_18 rt99 <| kt_0 (pc' := 4) rfl <| ok_iloadn (pc' := 5) i138_4 rfl rfl <| ?_
  refine ok_zlt (pc1 := 19) (pc2 := 8) i138_5 (by omega) rfl rfl (fun h9 => by exfalso; omega) (fun h1 => ?_)
  refine ok_iloadn (pc' := 9) i138_8 rfl rfl <| ok_aloadn (pc' := 10) i138_9 rfl rfl <| ok_getfr (r := A) (pc' := 13) i138_10 o138 gr0_39 (ShYard_k0 hSY) (ShYard_r8 hSY) rfl <| ?_
  have z1 : 0 ≤ s 5 ∧ s 5 ≤ 60 := V_5 hV
  refine ok_getfi (v := (s 5)) (pc' := 16) i138_13 o138 gi0_272 (ShState_k0 hSA) (RepS_f7 hRA) rfl <| ?_
  refine ok_clt (pc1 := 30) (pc2 := 19) i138_16 (by omega) rfl rfl (fun h2 => ?_) (fun h9 => by exfalso; omega)
  refine ok_iloadn (pc' := 31) i138_30 rfl rfl <| ok_iconst (pc' := 32) i138_31 rfl <| ok_iconst (pc' := 33) i138_32 rfl <| ok_cc i138_33 rfl (cl_s o138 m0_172 na104 rfl rfl (bt rfl) (bt rfl) rfl) ln104 (pd104 (aI 0) (aI 0) (aI 3)) <| ok_iloadn (pc' := 1) i104_0 rfl rfl <| ok_iloadn (pc' := 2) i104_1 rfl rfl <| ok_kc0 (pc1 := 10) (pc2 := 5) i104_2 (by decide) rfl rfl <| ok_iloadn (pc' := 6) i104_5 rfl rfl <| ?_
  refine ok_iloadn (pc' := 7) i104_6 rfl rfl <| ok_kc1 (pc1 := 21) (pc2 := 10) i104_7 (by decide) rfl rfl <| ok_vret i104_21 rt104 <| kt_0 (pc' := 36) rfl <| ok_aloadn (pc' := 37) i138_36 rfl rfl <| ok_getfr (r := A) (pc' := 40) i138_37 o138 gr0_39 (ShYard_k0 hSY) (ShYard_r8 hSY) rfl <| ok_getfr (r := (A + 18)) (pc' := 43) i138_40 o138 gr0_277 (ShState_k0 hSA) (ShState_r8 hSA) rfl <| ok_iloadn (pc' := 44) i138_43 rfl rfl <| ?_
  refine ok_aaload (r := (A + 19)) (pc' := 45) i138_44 (ShState_k18 hSA) (by decide) (ShState_l18 hSA) (by decide) (ShState_e18_0 hSA) rfl <| ok_iloadn (pc' := 46) i138_45 rfl rfl <| ok_iaload (v := (s (743 + (4 * x1)))) (pc' := 47) i138_46 (ShState_k19 hSA) (by decide) (ShState_l19 hSA) (by omega) (RepS_19 hRA (by omega) (by omega)) rfl <| ok_ireti i138_47 rt138 <| ?_
  exact ⟨rfl, rfl, rfl⟩
theorem y138_1 {g : AG} {M : AM} {Y P A V T K H X : Nat} {q s : Int → Int} {b : Int} {x1 : Int} (hSY : ShYard g Y P A V T K H X) (hSV : ShWorks g V P A) (hSP : ShPlan g P) (hSA : ShState g A) (hRP : RepP M P q) (hRA : RepS M A s) (hQ : ValQ q) (hV : Val b q s) (h0 : 0 ≤ x1 ∧ x1 < s 5) (h1 : 0 ≤ s 5 ∧ s 5 ≤ 60) (hYd : M Y 6 = 1) :
    Ok 1 138 0 [aR Y, aI x1, aI 1] [] g M (Rt (some (aI (s ((743 + (4 * x1)) + 1)))) g (fun M9 => M9 = M)) := by
  have yq0 : 0 ≤ q 0 ∧ q 0 ≤ 4 := Q_0 hQ
  have yq1 : 0 ≤ q 1 ∧ q 1 ≤ 6 := Q_1 hQ
  have ys3 : 0 ≤ s 3 ∧ s 3 ≤ 80 := V_3 hV
  have ys4 : 0 ≤ s 4 ∧ s 4 ≤ 16 := V_4 hV
  refine ok_aloadn (pc' := 1) i138_0 rfl rfl <| ok_cc i138_1 rfl (cl_v o138 m0_132 na99 rfl rfl (bt rfl) (bt rfl) rfl (by rw [ShYard_k0 hSY, o99])) ln99 (pd99 (aR Y)) <| ok_aloadn (pc' := 1) i99_0 rfl rfl <| ok_getfi (v := 1) (pc' := 4) i99_1 o99 gi0_268 (ShYard_k0 hSY) hYd rfl <| ok_kz1 (pc1 := 18) (pc2 := 7) i99_4 (by decide) rfl rfl <| ok_vret i99_18 rt99 <| kt_0 (pc' := 4) rfl <| ok_iloadn (pc' := 5) i138_4 rfl rfl <| ?_
  refine ok_zlt (pc1 := 19) (pc2 := 8) i138_5 (by omega) rfl rfl (fun h9 => by exfalso; omega) (fun h1 => ?_)
  refine ok_iloadn (pc' := 9) i138_8 rfl rfl <| ok_aloadn (pc' := 10) i138_9 rfl rfl <| ok_getfr (r := A) (pc' := 13) i138_10 o138 gr0_39 (ShYard_k0 hSY) (ShYard_r8 hSY) rfl <| ?_
  have z1 : 0 ≤ s 5 ∧ s 5 ≤ 60 := V_5 hV
  refine ok_getfi (v := (s 5)) (pc' := 16) i138_13 o138 gi0_272 (ShState_k0 hSA) (RepS_f7 hRA) rfl <| ?_
  refine ok_clt (pc1 := 30) (pc2 := 19) i138_16 (by omega) rfl rfl (fun h2 => ?_) (fun h9 => by exfalso; omega)
  refine ok_iloadn (pc' := 31) i138_30 rfl rfl <| ok_iconst (pc' := 32) i138_31 rfl <| ok_iconst (pc' := 33) i138_32 rfl <| ok_cc i138_33 rfl (cl_s o138 m0_172 na104 rfl rfl (bt rfl) (bt rfl) rfl) ln104 (pd104 (aI 1) (aI 0) (aI 3)) <| ok_iloadn (pc' := 1) i104_0 rfl rfl <| ok_iloadn (pc' := 2) i104_1 rfl rfl <| ok_kc0 (pc1 := 10) (pc2 := 5) i104_2 (by decide) rfl rfl <| ok_iloadn (pc' := 6) i104_5 rfl rfl <| ?_
  refine ok_iloadn (pc' := 7) i104_6 rfl rfl <| ok_kc1 (pc1 := 21) (pc2 := 10) i104_7 (by decide) rfl rfl <| ok_vret i104_21 rt104 <| kt_0 (pc' := 36) rfl <| ok_aloadn (pc' := 37) i138_36 rfl rfl <| ok_getfr (r := A) (pc' := 40) i138_37 o138 gr0_39 (ShYard_k0 hSY) (ShYard_r8 hSY) rfl <| ok_getfr (r := (A + 18)) (pc' := 43) i138_40 o138 gr0_277 (ShState_k0 hSA) (ShState_r8 hSA) rfl <| ok_iloadn (pc' := 44) i138_43 rfl rfl <| ?_
  refine ok_aaload (r := (A + 20)) (pc' := 45) i138_44 (ShState_k18 hSA) (by decide) (ShState_l18 hSA) (by decide) (ShState_e18_1 hSA) rfl <| ok_iloadn (pc' := 46) i138_45 rfl rfl <| ok_iaload (v := (s ((743 + (4 * x1)) + 1))) (pc' := 47) i138_46 (ShState_k20 hSA) (by decide) (ShState_l20 hSA) (by omega) (RepS_20 hRA (by omega) (by omega)) rfl <| ok_ireti i138_47 rt138 <| ?_
  exact ⟨rfl, rfl, rfl⟩
theorem y138_2 {g : AG} {M : AM} {Y P A V T K H X : Nat} {q s : Int → Int} {b : Int} {x1 : Int} (hSY : ShYard g Y P A V T K H X) (hSV : ShWorks g V P A) (hSP : ShPlan g P) (hSA : ShState g A) (hRP : RepP M P q) (hRA : RepS M A s) (hQ : ValQ q) (hV : Val b q s) (h0 : 0 ≤ x1 ∧ x1 < s 5) (h1 : 0 ≤ s 5 ∧ s 5 ≤ 60) (hYd : M Y 6 = 1) :
    Ok 1 138 0 [aR Y, aI x1, aI 2] [] g M (Rt (some (aI (s ((743 + (4 * x1)) + 2)))) g (fun M9 => M9 = M)) := by
  have yq0 : 0 ≤ q 0 ∧ q 0 ≤ 4 := Q_0 hQ
  have yq1 : 0 ≤ q 1 ∧ q 1 ≤ 6 := Q_1 hQ
  have ys3 : 0 ≤ s 3 ∧ s 3 ≤ 80 := V_3 hV
  have ys4 : 0 ≤ s 4 ∧ s 4 ≤ 16 := V_4 hV
  refine ok_aloadn (pc' := 1) i138_0 rfl rfl <| ok_cc i138_1 rfl (cl_v o138 m0_132 na99 rfl rfl (bt rfl) (bt rfl) rfl (by rw [ShYard_k0 hSY, o99])) ln99 (pd99 (aR Y)) <| ok_aloadn (pc' := 1) i99_0 rfl rfl <| ok_getfi (v := 1) (pc' := 4) i99_1 o99 gi0_268 (ShYard_k0 hSY) hYd rfl <| ok_kz1 (pc1 := 18) (pc2 := 7) i99_4 (by decide) rfl rfl <| ok_vret i99_18 rt99 <| kt_0 (pc' := 4) rfl <| ok_iloadn (pc' := 5) i138_4 rfl rfl <| ?_
  refine ok_zlt (pc1 := 19) (pc2 := 8) i138_5 (by omega) rfl rfl (fun h9 => by exfalso; omega) (fun h1 => ?_)
  refine ok_iloadn (pc' := 9) i138_8 rfl rfl <| ok_aloadn (pc' := 10) i138_9 rfl rfl <| ok_getfr (r := A) (pc' := 13) i138_10 o138 gr0_39 (ShYard_k0 hSY) (ShYard_r8 hSY) rfl <| ?_
  have z1 : 0 ≤ s 5 ∧ s 5 ≤ 60 := V_5 hV
  refine ok_getfi (v := (s 5)) (pc' := 16) i138_13 o138 gi0_272 (ShState_k0 hSA) (RepS_f7 hRA) rfl <| ?_
  refine ok_clt (pc1 := 30) (pc2 := 19) i138_16 (by omega) rfl rfl (fun h2 => ?_) (fun h9 => by exfalso; omega)
  refine ok_iloadn (pc' := 31) i138_30 rfl rfl <| ok_iconst (pc' := 32) i138_31 rfl <| ok_iconst (pc' := 33) i138_32 rfl <| ok_cc i138_33 rfl (cl_s o138 m0_172 na104 rfl rfl (bt rfl) (bt rfl) rfl) ln104 (pd104 (aI 2) (aI 0) (aI 3)) <| ok_iloadn (pc' := 1) i104_0 rfl rfl <| ok_iloadn (pc' := 2) i104_1 rfl rfl <| ok_kc0 (pc1 := 10) (pc2 := 5) i104_2 (by decide) rfl rfl <| ok_iloadn (pc' := 6) i104_5 rfl rfl <| ?_
  refine ok_iloadn (pc' := 7) i104_6 rfl rfl <| ok_kc1 (pc1 := 21) (pc2 := 10) i104_7 (by decide) rfl rfl <| ok_vret i104_21 rt104 <| kt_0 (pc' := 36) rfl <| ok_aloadn (pc' := 37) i138_36 rfl rfl <| ok_getfr (r := A) (pc' := 40) i138_37 o138 gr0_39 (ShYard_k0 hSY) (ShYard_r8 hSY) rfl <| ok_getfr (r := (A + 18)) (pc' := 43) i138_40 o138 gr0_277 (ShState_k0 hSA) (ShState_r8 hSA) rfl <| ok_iloadn (pc' := 44) i138_43 rfl rfl <| ?_
  refine ok_aaload (r := (A + 21)) (pc' := 45) i138_44 (ShState_k18 hSA) (by decide) (ShState_l18 hSA) (by decide) (ShState_e18_2 hSA) rfl <| ok_iloadn (pc' := 46) i138_45 rfl rfl <| ok_iaload (v := (s ((743 + (4 * x1)) + 2))) (pc' := 47) i138_46 (ShState_k21 hSA) (by decide) (ShState_l21 hSA) (by omega) (RepS_21 hRA (by omega) (by omega)) rfl <| ok_ireti i138_47 rt138 <| ?_
  exact ⟨rfl, rfl, rfl⟩
theorem y138_3 {g : AG} {M : AM} {Y P A V T K H X : Nat} {q s : Int → Int} {b : Int} {x1 : Int} (hSY : ShYard g Y P A V T K H X) (hSV : ShWorks g V P A) (hSP : ShPlan g P) (hSA : ShState g A) (hRP : RepP M P q) (hRA : RepS M A s) (hQ : ValQ q) (hV : Val b q s) (h0 : 0 ≤ x1 ∧ x1 < s 5) (h1 : 0 ≤ s 5 ∧ s 5 ≤ 60) (hYd : M Y 6 = 1) :
    Ok 1 138 0 [aR Y, aI x1, aI 3] [] g M (Rt (some (aI (s ((743 + (4 * x1)) + 3)))) g (fun M9 => M9 = M)) := by
  have yq0 : 0 ≤ q 0 ∧ q 0 ≤ 4 := Q_0 hQ
  have yq1 : 0 ≤ q 1 ∧ q 1 ≤ 6 := Q_1 hQ
  have ys3 : 0 ≤ s 3 ∧ s 3 ≤ 80 := V_3 hV
  have ys4 : 0 ≤ s 4 ∧ s 4 ≤ 16 := V_4 hV
  refine ok_aloadn (pc' := 1) i138_0 rfl rfl <| ok_cc i138_1 rfl (cl_v o138 m0_132 na99 rfl rfl (bt rfl) (bt rfl) rfl (by rw [ShYard_k0 hSY, o99])) ln99 (pd99 (aR Y)) <| ok_aloadn (pc' := 1) i99_0 rfl rfl <| ok_getfi (v := 1) (pc' := 4) i99_1 o99 gi0_268 (ShYard_k0 hSY) hYd rfl <| ok_kz1 (pc1 := 18) (pc2 := 7) i99_4 (by decide) rfl rfl <| ok_vret i99_18 rt99 <| kt_0 (pc' := 4) rfl <| ok_iloadn (pc' := 5) i138_4 rfl rfl <| ?_
  refine ok_zlt (pc1 := 19) (pc2 := 8) i138_5 (by omega) rfl rfl (fun h9 => by exfalso; omega) (fun h1 => ?_)
  refine ok_iloadn (pc' := 9) i138_8 rfl rfl <| ok_aloadn (pc' := 10) i138_9 rfl rfl <| ok_getfr (r := A) (pc' := 13) i138_10 o138 gr0_39 (ShYard_k0 hSY) (ShYard_r8 hSY) rfl <| ?_
  have z1 : 0 ≤ s 5 ∧ s 5 ≤ 60 := V_5 hV
  refine ok_getfi (v := (s 5)) (pc' := 16) i138_13 o138 gi0_272 (ShState_k0 hSA) (RepS_f7 hRA) rfl <| ?_
  refine ok_clt (pc1 := 30) (pc2 := 19) i138_16 (by omega) rfl rfl (fun h2 => ?_) (fun h9 => by exfalso; omega)
  refine ok_iloadn (pc' := 31) i138_30 rfl rfl <| ok_iconst (pc' := 32) i138_31 rfl <| ok_iconst (pc' := 33) i138_32 rfl <| ok_cc i138_33 rfl (cl_s o138 m0_172 na104 rfl rfl (bt rfl) (bt rfl) rfl) ln104 (pd104 (aI 3) (aI 0) (aI 3)) <| ok_iloadn (pc' := 1) i104_0 rfl rfl <| ok_iloadn (pc' := 2) i104_1 rfl rfl <| ok_kc0 (pc1 := 10) (pc2 := 5) i104_2 (by decide) rfl rfl <| ok_iloadn (pc' := 6) i104_5 rfl rfl <| ?_
  refine ok_iloadn (pc' := 7) i104_6 rfl rfl <| ok_kc1 (pc1 := 21) (pc2 := 10) i104_7 (by decide) rfl rfl <| ok_vret i104_21 rt104 <| kt_0 (pc' := 36) rfl <| ok_aloadn (pc' := 37) i138_36 rfl rfl <| ok_getfr (r := A) (pc' := 40) i138_37 o138 gr0_39 (ShYard_k0 hSY) (ShYard_r8 hSY) rfl <| ok_getfr (r := (A + 18)) (pc' := 43) i138_40 o138 gr0_277 (ShState_k0 hSA) (ShState_r8 hSA) rfl <| ok_iloadn (pc' := 44) i138_43 rfl rfl <| ?_
  refine ok_aaload (r := (A + 22)) (pc' := 45) i138_44 (ShState_k18 hSA) (by decide) (ShState_l18 hSA) (by decide) (ShState_e18_3 hSA) rfl <| ok_iloadn (pc' := 46) i138_45 rfl rfl <| ok_iaload (v := (s ((743 + (4 * x1)) + 3))) (pc' := 47) i138_46 (ShState_k22 hSA) (by decide) (ShState_l22 hSA) (by omega) (RepS_22 hRA (by omega) (by omega)) rfl <| ok_ireti i138_47 rt138 <| ?_
  exact ⟨rfl, rfl, rfl⟩
theorem y138_x {g : AG} {M : AM} {Y P A V T K H X : Nat} {q s : Int → Int} {b : Int} {x1 : Int} (hSY : ShYard g Y P A V T K H X) (hSV : ShWorks g V P A) (hSP : ShPlan g P) (hSA : ShState g A) (hRP : RepP M P q) (hRA : RepS M A s) (hQ : ValQ q) (hV : Val b q s) (h0 : s 5 ≤ x1 ∧ x1 ≤ 100) (h1 : 0 ≤ s 5 ∧ s 5 ≤ 60) (hYd : M Y 6 = 1) :
    Ok 1 138 0 [aR Y, aI x1, aI 0] [] g M (fun o g1 M1 => o = .inr 10 ∧ g1 = am_alloc g 30 0 6 ∧ M1 = M) := by
  have yq0 : 0 ≤ q 0 ∧ q 0 ≤ 4 := Q_0 hQ
  have yq1 : 0 ≤ q 1 ∧ q 1 ≤ 6 := Q_1 hQ
  have ys3 : 0 ≤ s 3 ∧ s 3 ≤ 80 := V_3 hV
  have ys4 : 0 ≤ s 4 ∧ s 4 ≤ 16 := V_4 hV
  refine ok_aloadn (pc' := 1) i138_0 rfl rfl <| ok_cc i138_1 rfl (cl_v o138 m0_132 na99 rfl rfl (bt rfl) (bt rfl) rfl (by rw [ShYard_k0 hSY, o99])) ln99 (pd99 (aR Y)) <| ok_aloadn (pc' := 1) i99_0 rfl rfl <| ok_getfi (v := 1) (pc' := 4) i99_1 o99 gi0_268 (ShYard_k0 hSY) hYd rfl <| ok_kz1 (pc1 := 18) (pc2 := 7) i99_4 (by decide) rfl rfl <| ok_vret i99_18 rt99 <| kt_0 (pc' := 4) rfl <| ok_iloadn (pc' := 5) i138_4 rfl rfl <| ?_
  refine ok_zlt (pc1 := 19) (pc2 := 8) i138_5 (by omega) rfl rfl (fun h9 => by exfalso; omega) (fun h1 => ?_)
  refine ok_iloadn (pc' := 9) i138_8 rfl rfl <| ok_aloadn (pc' := 10) i138_9 rfl rfl <| ok_getfr (r := A) (pc' := 13) i138_10 o138 gr0_39 (ShYard_k0 hSY) (ShYard_r8 hSY) rfl <| ?_
  have z1 : 0 ≤ s 5 ∧ s 5 ≤ 60 := V_5 hV
  refine ok_getfi (v := (s 5)) (pc' := 16) i138_13 o138 gi0_272 (ShState_k0 hSA) (RepS_f7 hRA) rfl <| ?_
  refine ok_clt (pc1 := 30) (pc2 := 19) i138_16 (by omega) rfl rfl (fun h9 => by exfalso; omega) (fun h2 => ?_)
  refine ok_throw th138_19 (bt rfl) <| ?_
  exact ⟨rfl, rfl, rfl⟩
theorem y94 {g : AG} {M : AM} {Y P A V T K H X : Nat} {q s : Int → Int} {b : Int} (hSY : ShYard g Y P A V T K H X) (hSV : ShWorks g V P A) (hSP : ShPlan g P) (hSA : ShState g A) (hRP : RepP M P q) (hRA : RepS M A s) (hQ : ValQ q) (hV : Val b q s) (hYd : M Y 6 = 1) :
    Ok 0 94 0 [aR Y] [] g M (Rt (some (aI (s 5))) g (fun M9 => M9 = M)) := by
  have yq0 : 0 ≤ q 0 ∧ q 0 ≤ 4 := Q_0 hQ
  have yq1 : 0 ≤ q 1 ∧ q 1 ≤ 6 := Q_1 hQ
  have ys3 : 0 ≤ s 3 ∧ s 3 ≤ 80 := V_3 hV
  have ys4 : 0 ≤ s 4 ∧ s 4 ≤ 16 := V_4 hV
  refine ok_aloadn (pc' := 1) i94_0 rfl rfl <| ok_getfi (v := 1) (pc' := 4) i94_1 o94 gi0_268 (ShYard_k0 hSY) hYd rfl <| ok_kz0 (pc1 := 17) (pc2 := 7) i94_4 (by decide) rfl rfl <| ok_aloadn (pc' := 8) i94_7 rfl rfl <| ok_getfr (r := A) (pc' := 11) i94_8 o94 gr0_39 (ShYard_k0 hSY) (ShYard_r8 hSY) rfl <| ?_
  have z1 : 0 ≤ s 5 ∧ s 5 ≤ 60 := V_5 hV
  refine ok_getfi (v := (s 5)) (pc' := 14) i94_11 o94 gi0_272 (ShState_k0 hSA) (RepS_f7 hRA) rfl <| ok_goto (pc' := 18) i94_14 rfl <| ok_ireti i94_18 rt94 <| ?_
  exact ⟨rfl, rfl, rfl⟩
theorem y95 {g : AG} {M : AM} {Y P A V T K H X : Nat} {q s : Int → Int} {b : Int} (hSY : ShYard g Y P A V T K H X) (hSV : ShWorks g V P A) (hSP : ShPlan g P) (hSA : ShState g A) (hSH : ShHist g H) (hRP : RepP M P q) (hRA : RepS M A s) (hQ : ValQ q) (hV : Val b q s) (hYd : M Y 6 = 1) :
    Ok 0 95 0 [aR Y] [] g M (Rt (some (aI (M H 2))) g (fun M9 => M9 = M)) := by
  have yq0 : 0 ≤ q 0 ∧ q 0 ≤ 4 := Q_0 hQ
  have yq1 : 0 ≤ q 1 ∧ q 1 ≤ 6 := Q_1 hQ
  have ys3 : 0 ≤ s 3 ∧ s 3 ≤ 80 := V_3 hV
  have ys4 : 0 ≤ s 4 ∧ s 4 ≤ 16 := V_4 hV
  refine ok_aloadn (pc' := 1) i95_0 rfl rfl <| ok_getfr (r := H) (pc' := 4) i95_1 o95 gr0_71 (ShYard_k0 hSY) (ShYard_r12 hSY) rfl <| ok_getfi (v := (M H 2)) (pc' := 7) i95_4 o95 gi0_343 (ShHist_k0 hSH) rfl rfl <| ok_ireti i95_7 rt95 <| ?_
  exact ⟨rfl, rfl, rfl⟩
theorem y90 {g : AG} {M : AM} {Y P A V T K H X : Nat} {q s : Int → Int} {b : Int} (hSY : ShYard g Y P A V T K H X) (hSV : ShWorks g V P A) (hSP : ShPlan g P) (hSA : ShState g A) (hRP : RepP M P q) (hRA : RepS M A s) (hQ : ValQ q) (hV : Val b q s) (hYd : M Y 6 = 1) :
    Ok 0 90 0 [aR Y] [] g M (Rt (some (aI (M Y 3))) g (fun M9 => M9 = M)) := by
  have yq0 : 0 ≤ q 0 ∧ q 0 ≤ 4 := Q_0 hQ
  have yq1 : 0 ≤ q 1 ∧ q 1 ≤ 6 := Q_1 hQ
  have ys3 : 0 ≤ s 3 ∧ s 3 ≤ 80 := V_3 hV
  have ys4 : 0 ≤ s 4 ∧ s 4 ≤ 16 := V_4 hV
  refine ok_aloadn (pc' := 1) i90_0 rfl rfl <| ok_getfi (v := (M Y 3)) (pc' := 4) i90_1 o90 gi0_111 (ShYard_k0 hSY) rfl rfl <| ok_ireti i90_4 rt90 <| ?_
  exact ⟨rfl, rfl, rfl⟩
theorem y91 {g : AG} {M : AM} {Y P A V T K H X : Nat} {q s : Int → Int} {b : Int} (hSY : ShYard g Y P A V T K H X) (hSV : ShWorks g V P A) (hSP : ShPlan g P) (hSA : ShState g A) (hRP : RepP M P q) (hRA : RepS M A s) (hQ : ValQ q) (hV : Val b q s) (hYd : M Y 6 = 1) :
    Ok 0 91 0 [aR Y] [] g M (Rt (some (aI (M Y 4))) g (fun M9 => M9 = M)) := by
  have yq0 : 0 ≤ q 0 ∧ q 0 ≤ 4 := Q_0 hQ
  have yq1 : 0 ≤ q 1 ∧ q 1 ≤ 6 := Q_1 hQ
  have ys3 : 0 ≤ s 3 ∧ s 3 ≤ 80 := V_3 hV
  have ys4 : 0 ≤ s 4 ∧ s 4 ≤ 16 := V_4 hV
  refine ok_aloadn (pc' := 1) i91_0 rfl rfl <| ok_getfi (v := (M Y 4)) (pc' := 4) i91_1 o91 gi0_22 (ShYard_k0 hSY) rfl rfl <| ok_ireti i91_4 rt91 <| ?_
  exact ⟨rfl, rfl, rfl⟩
theorem y92 {g : AG} {M : AM} {Y P A V T K H X : Nat} {q s : Int → Int} {b : Int} (hSY : ShYard g Y P A V T K H X) (hSV : ShWorks g V P A) (hSP : ShPlan g P) (hSA : ShState g A) (hRP : RepP M P q) (hRA : RepS M A s) (hQ : ValQ q) (hV : Val b q s) (hYd : M Y 6 = 1) :
    Ok 0 92 0 [aR Y] [] g M (Rt (some (aI (M Y 5))) g (fun M9 => M9 = M)) := by
  have yq0 : 0 ≤ q 0 ∧ q 0 ≤ 4 := Q_0 hQ
  have yq1 : 0 ≤ q 1 ∧ q 1 ≤ 6 := Q_1 hQ
  have ys3 : 0 ≤ s 3 ∧ s 3 ≤ 80 := V_3 hV
  have ys4 : 0 ≤ s 4 ∧ s 4 ≤ 16 := V_4 hV
  refine ok_aloadn (pc' := 1) i92_0 rfl rfl <| ok_getfi (v := (M Y 5)) (pc' := 4) i92_1 o92 gi0_26 (ShYard_k0 hSY) rfl rfl <| ok_ireti i92_4 rt92 <| ?_
  exact ⟨rfl, rfl, rfl⟩
