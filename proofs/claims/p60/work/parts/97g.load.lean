/-! LOAD (by program, wip/p60/gen) -/
theorem o96 : am_oc 96 = 0 := by decide +kernel
theorem pi96_90 : am_pfi 96 0 90 0 1 = true := by decide +kernel
theorem gr0_18 : am_gfr 0 18 0 2 = true := by decide +kernel
theorem m0_104 : am_mlk 0 104 0 67 = true := by decide +kernel
theorem na67 : am_na 67 = 1 := by decide +kernel
theorem nl67 : am_nL 67 = 3 := by decide +kernel
theorem pd67 : ∀ a0 a1 : AV, am_pad 67 [a0, a1] = [a0, a1, aU] := by intros; unfold am_pad; rw [nl67]; rfl
theorem ln67 : 2 ≤ am_nL 67 := by rw [nl67]; decide
theorem pi96_111 : am_pfi 96 0 111 0 3 = true := by decide +kernel
theorem pi96_22 : am_pfi 96 0 22 0 4 = true := by decide +kernel
theorem pi96_26 : am_pfi 96 0 26 0 5 = true := by decide +kernel
theorem m0_126 : am_mlk 0 126 0 97 = true := by decide +kernel
theorem na97 : am_na 97 = 0 := by decide +kernel
theorem nl97 : am_nL 97 = 2 := by decide +kernel
theorem pd97 : ∀ a0 : AV, am_pad 97 [a0] = [a0, aU] := by intros; unfold am_pad; rw [nl97]; rfl
theorem ln97 : 1 ≤ am_nL 97 := by rw [nl97]; decide
theorem o97 : am_oc 97 = 0 := by decide +kernel
theorem gr0_360 : am_gfr 0 360 3 1 = true := by decide +kernel
theorem m0_361 : am_mlk 0 361 0 13 = true := by decide +kernel
theorem na13 : am_na 13 = 1 := by decide +kernel
theorem nl13 : am_nL 13 = 3 := by decide +kernel
theorem pd13 : ∀ a0 a1 : AV, am_pad 13 [a0, a1] = [a0, a1, aU] := by intros; unfold am_pad; rw [nl13]; rfl
theorem ln13 : 2 ≤ am_nL 13 := by rw [nl13]; decide
theorem gr0_364 : am_gfr 0 364 3 2 = true := by decide +kernel
theorem m0_355 : am_mlk 0 355 0 17 = true := by decide +kernel
theorem pi97_343 : am_pfi 97 0 343 1 2 = true := by decide +kernel
theorem gr0_79 : am_gfr 0 79 0 14 = true := by decide +kernel
theorem pz97_268 : am_pfz 97 0 268 0 6 = true := by decide +kernel
theorem rt97 : am_rt 97 = none := by decide +kernel
theorem rt96 : am_rt 96 = some .int := by decide +kernel
theorem Z0_zro : Z0 zro := fun _ _ _ => rfl

theorem up2_na_at {M : AM} {a b : Nat} {x v i : Int} (h : b ≠ a) : up2 M a x v b i = M b i := by rw [up2_na h]
/-- a text is loaded -/
theorem t96 {g : AG} {M : AM} {O : Nat} {n p m : Int} {q s : Int → Int} (h111 : 111 ≤ O) (hG : CG g O) (hPs : ShParser g (O + 2) (O + 1) (O + 3) (O + 14)) (hPp : ShPlan g (O + 3)) (hPb : ShState g (O + 14)) (hp : M O 1 = p) (hn : 0 ≤ n ∧ n ≤ p) (hp7 : p ≤ 720) (hn7 : n ≤ 700) (hby : ∀ i : Int, 0 ≤ i → i < 700 → -128 ≤ M (O + 1) i ∧ M (O + 1) i < 128) (hWD : Wds g M 10 12 14 16 18 20 22) (hI : Idle M (O + 14)) (hh1 : 0 ≤ M (O + 102) 1 ∧ M (O + 102) 1 < 8) (htx : txtL (M (O + 1)) n zro = .inr (m, q, s)) : Ok 9 96 0 [aR O, aI n] [] g M (Rt (some (aI (s 3))) g (fun M9 => CM M9 O 0 q s ∧ M9 O 3 = 0 ∧ M9 O 4 = -1 ∧ M9 O 5 = -1 ∧ ∀ c : Nat, c < O ∨ O + 348 ≤ c → M9 c = M c)) := by
  have hok := txtL_ok (by omega) Z0_zro htx
  have hV : Val 0 q s := hok.1
  have hQ := V_q hV
  refine ok_iloadn (pc' := 1) i96_0 rfl rfl <| ?_
  refine ok_zlt (pc1 := 12) (pc2 := 4) i96_1 (by omega) rfl rfl (fun h9 => by exfalso; omega) (fun h1 => ?_)
  refine ok_iloadn (pc' := 5) i96_4 rfl rfl <| ok_aloadn (pc' := 6) i96_5 rfl rfl <| ok_getfi (v := p) (pc' := 9) i96_6 o96 gi0_90 (ShYard_k0 hG.y) (hp) rfl <| ?_
  refine ok_cle (pc1 := 22) (pc2 := 12) i96_9 (by omega) rfl rfl (fun h2 => ?_) (fun h9 => by exfalso; omega)
  refine ok_aloadn (pc' := 23) i96_22 rfl rfl <| ok_iconst (pc' := 24) i96_23 rfl <| ok_putfj (kk := 1) (pc' := 27) i96_24 o96 pi96_90 (ShYard_k0 hG.y) rfl rfl <| ok_aloadn (pc' := 28) i96_27 rfl rfl <| ok_getfr (r := (O + 2)) (pc' := 31) i96_28 o96 gr0_18 (ShYard_k0 hG.y) (ShYard_r2 hG.y) rfl <| ok_iloadn (pc' := 32) i96_31 rfl rfl <| ?_
  refine ok_cc i96_32 rfl (cl_v o96 m0_104 na67 rfl rfl (bt rfl) (bt rfl) rfl (by rw [ShParser_k0 hPs, o67])) ln67 (pd67 (aR (O + 2)) (aI n)) <| (Ok.deep (t67 (by_ := M (O + 1)) hPs ⟨hG.y.2.1, hG.y.2.2.1⟩ hPp hPb (by omega) (fun i i0 i1 => ⟨up2_na_at (by omega), hby i i0 i1⟩) (by omega) (by omega) (hWD.fr (fun c c0 => up2_na (by omega))) (Idle_fr hI (fun a a0 a1 a2 => up2_na (by omega))) Z0_zro) (by omega)).mono (fun o9 g1 M1 p1 => ?_)
  obtain ⟨rfl, eg1, hL1, hI1, ho1⟩ := p1
  rw [eg1]
  rw [htx] at hL1 ⊢
  rw [show lrB (Sum.inr (m, q, s)) = (1 : Int) from rfl]
  obtain ⟨hP1, hS1⟩ := hL1
  refine kt_v (pc' := 35) rfl <| ok_kz1 (pc1 := 81) (pc2 := 38) i96_35 (by decide) rfl rfl <| ok_aloadn (pc' := 82) i96_81 rfl rfl <| ok_iconst (pc' := 83) i96_82 rfl <| ok_putfj (kk := 3) (pc' := 86) i96_83 o96 pi96_111 (ShYard_k0 hG.y) rfl rfl <| ok_aloadn (pc' := 87) i96_86 rfl rfl <| ok_iconst (pc' := 88) i96_87 rfl <| ok_putfj (kk := 4) (pc' := 91) i96_88 o96 pi96_22 (ShYard_k0 hG.y) rfl rfl <| ?_
  refine ok_aloadn (pc' := 92) i96_91 rfl rfl <| ok_iconst (pc' := 93) i96_92 rfl <| ok_putfj (kk := 5) (pc' := 96) i96_93 o96 pi96_26 (ShYard_k0 hG.y) rfl rfl <| ok_aloadn (pc' := 97) i96_96 rfl rfl <| ok_cc i96_97 rfl (cl_v o96 m0_126 na97 rfl rfl (bt rfl) (bt rfl) rfl (by rw [ShYard_k0 hG.y, o97])) ln97 (pd97 (aR O)) <| ok_aloadn (pc' := 1) i97_0 rfl rfl <| ok_getfr (r := (O + 38)) (pc' := 4) i97_1 o97 gr0_32 (ShYard_k0 hG.y) (ShYard_r7 hG.y) rfl <| ok_aloadn (pc' := 5) i97_4 rfl rfl <| ?_
  refine ok_getfr (r := (O + 2)) (pc' := 8) i97_5 o97 gr0_18 (ShYard_k0 hG.y) (ShYard_r2 hG.y) rfl <| ok_getfr (r := (O + 3)) (pc' := 11) i97_8 o97 gr0_360 (ShParser_k0 hPs) (ShParser_r1 hPs) rfl <| ?_
  obtain ⟨M2, hM2⟩ : ∃ z : AM, z = (up2 (up2 (up2 M1 O 3 0) O 4 (-1)) O 5 (-1)) := ⟨_, rfl⟩
  rw [← hM2]
  have hP2 : RepP M2 (O + 3) q := RepP.fr hP1 (fun a a0 a1 => by rw [hM2, up2_na (by omega), up2_na (by omega), up2_na (by omega)])
  have hS2 : RepS M2 (O + 14) s := RepS.fr hS1 (fun a a0 a1 => by rw [hM2, up2_na (by omega), up2_na (by omega), up2_na (by omega)])
  refine ok_cc i97_11 rfl (cl_v o97 m0_361 na13 rfl rfl (bt rfl) (bt rfl) rfl (by rw [ShPlan_k0 hG.p, o13])) ln13 (pd13 (aR (O + 38)) (aR (O + 3))) <| (Ok.deep (t13 hG.p hPp hP2 hQ) (by omega)).mono (fun o9 g3 M3 p3 => ?_)
  obtain ⟨rfl, eg3, hP3, ho3⟩ := p3
  rw [eg3]
  refine kt_0 (pc' := 14) rfl <| ok_aloadn (pc' := 15) i97_14 rfl rfl <| ok_getfr (r := (O + 49)) (pc' := 18) i97_15 o97 gr0_39 (ShYard_k0 hG.y) (ShYard_r8 hG.y) rfl <| ok_aloadn (pc' := 19) i97_18 rfl rfl <| ok_getfr (r := (O + 2)) (pc' := 22) i97_19 o97 gr0_18 (ShYard_k0 hG.y) (ShYard_r2 hG.y) rfl <| ok_getfr (r := (O + 14)) (pc' := 25) i97_22 o97 gr0_364 (ShParser_k0 hPs) (ShParser_r2 hPs) rfl <| ?_
  have hS3 : RepS M3 (O + 14) s := RepS.fr hS2 (fun a a0 a1 => ho3 a (by omega))
  refine ok_cc i97_25 rfl (cl_v o97 m0_355 na17 rfl rfl (bt rfl) (bt rfl) rfl (by rw [ShState_k0 hG.s, o17])) ln17 (pd17 (aR (O + 49)) (aR (O + 14))) <| (Ok.deep (t17 hG.s hPb hS3 hV hQ (by omega)) (by omega)).mono (fun o9 g4 M4 p4 => ?_)
  obtain ⟨rfl, eg4, hR4, hW4⟩ := p4
  rw [eg4]
  refine kt_0 (pc' := 28) rfl <| ok_aloadn (pc' := 29) i97_28 rfl rfl <| ok_getfr (r := (O + 102)) (pc' := 32) i97_29 o97 gr0_71 (ShYard_k0 hG.y) (ShYard_r12 hG.y) rfl <| ok_iconst (pc' := 33) i97_32 rfl <| ok_putfj (kk := 2) (pc' := 36) i97_33 o97 pi97_343 (ShHist_k0 hG.h) rfl rfl <| ok_iconst (pc' := 37) i97_36 rfl <| ok_istoren (pc' := 38) (ls' := [aR O, aI 0]) i97_37 (bt rfl) rfl rfl <| ok_iloadn (pc' := 39) i97_38 rfl rfl <| ?_
  refine ok_iconst (pc' := 40) i97_39 rfl <| ok_kc0 (pc1 := 56) (pc2 := 43) i97_40 (by decide) rfl rfl <| ok_aloadn (pc' := 44) i97_43 rfl rfl <| ok_getfr (r := (O + 345)) (pc' := 47) i97_44 o97 gr0_79 (ShYard_k0 hG.y) (ShYard_r14 hG.y) rfl <| ok_iloadn (pc' := 48) i97_47 rfl rfl <| ok_iconst (pc' := 49) i97_48 rfl <| ok_bastore (v := 0) (pc' := 50) i97_49 (Or.inr ⟨hG.y.2.2.2.2.2.1, Or.inl rfl⟩) hG.y.2.2.2.2.2.2.1 (by decide) (by decide) rfl <| ok_iinc (pc' := 53) (v := 1) (ls' := [aR O, aI 1]) i97_50 rfl rfl rfl rfl <| ?_
  refine ok_goto (pc' := 38) i97_53 rfl <| ok_iloadn (pc' := 39) i97_38 rfl rfl <| ok_iconst (pc' := 40) i97_39 rfl <| ok_kc0 (pc1 := 56) (pc2 := 43) i97_40 (by decide) rfl rfl <| ok_aloadn (pc' := 44) i97_43 rfl rfl <| ok_getfr (r := (O + 345)) (pc' := 47) i97_44 o97 gr0_79 (ShYard_k0 hG.y) (ShYard_r14 hG.y) rfl <| ok_iloadn (pc' := 48) i97_47 rfl rfl <| ok_iconst (pc' := 49) i97_48 rfl <| ?_
  refine ok_bastore (v := 0) (pc' := 50) i97_49 (Or.inr ⟨hG.y.2.2.2.2.2.1, Or.inl rfl⟩) hG.y.2.2.2.2.2.2.1 (by decide) (by decide) rfl <| ok_iinc (pc' := 53) (v := 2) (ls' := [aR O, aI 2]) i97_50 rfl rfl rfl rfl <| ok_goto (pc' := 38) i97_53 rfl <| ok_iloadn (pc' := 39) i97_38 rfl rfl <| ok_iconst (pc' := 40) i97_39 rfl <| ok_kc1 (pc1 := 56) (pc2 := 43) i97_40 (by decide) rfl rfl <| ok_aloadn (pc' := 57) i97_56 rfl rfl <| ok_iconst (pc' := 58) i97_57 rfl <| ?_
  refine ok_putzj (kk := 6) (pc' := 61) i97_58 o97 pz97_268 (ShYard_k0 hG.y) (by omega) rfl rfl <| ?_
  obtain ⟨M9, hM9⟩ : ∃ z : AM, z = (up2 (up2 (up2 (up2 M4 (O + 102) 2 0) (O + 345) 0 0) (O + 345) 1 0) O 6 1) := ⟨_, rfl⟩
  rw [← hM9]
  have hR9 : RepS M9 (O + 49) s := RepS.fr hR4 (fun a a0 a1 => by rw [hM9, up2_na (by omega), up2_na (by omega), up2_na (by omega), up2_na (by omega)])
  have hS9 : M9 (O + 49) 2 = s 3 := hR9.2.1
  refine ok_vret i97_61 rt97 <| kt_0 (pc' := 100) rfl <| ok_aloadn (pc' := 101) i96_100 rfl rfl <| ok_getfr (r := (O + 49)) (pc' := 104) i96_101 o96 gr0_39 (ShYard_k0 hG.y) (ShYard_r8 hG.y) rfl <| ok_getfi (v := (s 3)) (pc' := 107) i96_104 o96 gi0_129 (ShState_k0 hG.s) (hS9) rfl <| ok_ireti i96_107 rt96 <| ?_
  have hc : ∀ c : Nat, c < O ∨ O + 348 ≤ c → M9 c = M c := fun c hc => by rw [hM9, up2_na (by omega), up2_na (by omega), up2_na (by omega), up2_na (by omega), hW4 c (by omega), ho3 c (by omega), hM2, up2_na (by omega), up2_na (by omega), up2_na (by omega), ho1 c (by omega), up2_na (by omega)]
  have hP9 : RepP M9 (O + 38) q := RepP.fr hP3 (fun a a0 a1 => by rw [hM9, up2_na (by omega), up2_na (by omega), up2_na (by omega), up2_na (by omega), hW4 a (by omega)])
  have hO : ∀ y : Int, y ≠ 6 → M9 O y = M2 O y := fun y hy => by rw [hM9, rd_ni hy rfl, up2_na (by omega), up2_na (by omega), up2_na (by omega), hW4 O (by omega), ho3 O (by omega)]
  have hH : M9 (O + 102) 1 = M (O + 102) 1 := by rw [hM9, up2_na (by omega), up2_na (by omega), up2_na (by omega), rd_ni (by omega) rfl, hW4 (O + 102) (by omega), ho3 (O + 102) (by omega), hM2, up2_na (by omega), up2_na (by omega), up2_na (by omega), ho1 (O + 102) (by omega), up2_na (by omega)]
  have hH2 : M9 (O + 102) 2 = 0 := by rw [hM9, up2_na (by omega), up2_na (by omega), up2_na (by omega)]; exact rd_eq
  refine ⟨rfl, rfl, ⟨hP9, hR9, hV, by rw [hM9]; exact rd_eq, by rw [hH]; exact hh1, by omega⟩, ?_, ?_, ?_, hc⟩
  · rw [hO 3 (by omega), hM2]; exact rd_ni (by omega) (rd_ni (by omega) rd_eq)
  · rw [hO 4 (by omega), hM2]; exact rd_ni (by omega) rd_eq
  · rw [hO 5 (by omega), hM2]; exact rd_eq
