/-! TRIALS: policies, rounds (by program, wip/gen) -/
section OK
variable {d mi pc pc' pc1 pc2 : Nat} {ls ls' st st' : List AV} {g g' : AG} {M M' : AM} {Q : AO → AG → AM → Prop} {i : Instr}
theorem ok_cgew {off x y : Int} (hi : am_ins mi pc = some (.if_icmp .ge off)) (hp : (pc : Int) + off = (pc1 : Nat)) (hp2 : pc + 3 = pc2) (k1 : wr y ≤ wr x → Ok d mi pc1 ls st g M Q) (k2 : wr x < wr y → Ok d mi pc2 ls st g M Q) : Ok d mi pc ls (aI y :: aI x :: st) g M Q :=
  ok_icmp hi hp hp2 (fun h => k1 (of_decide_eq_true h)) (fun h => k2 (by have := of_decide_eq_false h; omega))
theorem ok_cltw {off x y : Int} (hi : am_ins mi pc = some (.if_icmp .lt off)) (hp : (pc : Int) + off = (pc1 : Nat)) (hp2 : pc + 3 = pc2) (k1 : wr x < wr y → Ok d mi pc1 ls st g M Q) (k2 : wr y ≤ wr x → Ok d mi pc2 ls st g M Q) : Ok d mi pc ls (aI y :: aI x :: st) g M Q :=
  ok_icmp hi hp hp2 (fun h => k1 (of_decide_eq_true h)) (fun h => k2 (by have := of_decide_eq_false h; omega))
theorem ok_cgtw {off x y : Int} (hi : am_ins mi pc = some (.if_icmp .gt off)) (hp : (pc : Int) + off = (pc1 : Nat)) (hp2 : pc + 3 = pc2) (k1 : wr y < wr x → Ok d mi pc1 ls st g M Q) (k2 : wr x ≤ wr y → Ok d mi pc2 ls st g M Q) : Ok d mi pc ls (aI y :: aI x :: st) g M Q :=
  ok_icmp hi hp hp2 (fun h => k1 (of_decide_eq_true h)) (fun h => k2 (by have := of_decide_eq_false h; omega))
end OK
theorem pol_eq {q s : Int → Int} : itv (polF q s) 0 1 3 = polS q s := by
  have h : polF q s (0 + (0 : Nat)) (-1) = 0 := by
    unfold polF
    rw [if_pos rfl]
    rfl
  show itv (polF q s) 0 1 3 = polF q s (0 + (3 : Nat)) (polF q s (0 + (2 : Nat)) (polF q s (0 + (1 : Nat)) (polF q s (0 + (0 : Nat)) (-1))))
  rw [h]
  rfl
theorem o131 : am_oc 131 = 0 := by decide +kernel
theorem m0_132 : am_mlk 0 132 0 99 = true := by decide +kernel
theorem na99 : am_na 99 = 0 := by decide +kernel
theorem nl99 : am_nL 99 = 1 := by decide +kernel
theorem pd99 : ∀ a0 : AV, am_pad 99 [a0] = [a0] := by intros; unfold am_pad; rw [nl99]; rfl
theorem ln99 : 1 ≤ am_nL 99 := by rw [nl99]; decide
theorem o99 : am_oc 99 = 0 := by decide +kernel
theorem gi0_268 : am_gfi 0 268 0 6 = true := by decide +kernel
theorem rt99 : am_rt 99 = none := by decide +kernel
theorem gr0_55 : am_gfr 0 55 0 10 = true := by decide +kernel
theorem m0_247 : am_mlk 0 247 0 53 = true := by decide +kernel
theorem na53 : am_na 53 = 1 := by decide +kernel
theorem nl53 : am_nL 53 = 2 := by decide +kernel
theorem pd53 : ∀ a0 a1 : AV, am_pad 53 [a0, a1] = [a0, a1] := by intros; unfold am_pad; rw [nl53]; rfl
theorem ln53 : 2 ≤ am_nL 53 := by rw [nl53]; decide
theorem m0_250 : am_mlk 0 250 0 54 = true := by decide +kernel
theorem na54 : am_na 54 = 1 := by decide +kernel
theorem nl54 : am_nL 54 = 2 := by decide +kernel
theorem pd54 : ∀ a0 a1 : AV, am_pad 54 [a0, a1] = [a0, a1] := by intros; unfold am_pad; rw [nl54]; rfl
theorem ln54 : 2 ≤ am_nL 54 := by rw [nl54]; decide
theorem rt131 : am_rt 131 = some .int := by decide +kernel
theorem o248 : am_oc 248 = 9 := by decide +kernel
theorem m9_329 : am_mlk 9 329 0 233 = true := by decide +kernel
theorem na233 : am_na 233 = 1 := by decide +kernel
theorem nl233 : am_nL 233 = 3 := by decide +kernel
theorem pd233 : ∀ a0 a1 : AV, am_pad 233 [a0, a1] = [a0, a1, aU] := by intros; unfold am_pad; rw [nl233]; rfl
theorem ln233 : 2 ≤ am_nL 233 := by rw [nl233]; decide
theorem m9_332 : am_mlk 9 332 0 244 = true := by decide +kernel
theorem na244 : am_na 244 = 1 := by decide +kernel
theorem nl244 : am_nL 244 = 5 := by decide +kernel
theorem pd244 : ∀ a0 a1 : AV, am_pad 244 [a0, a1] = [a0, a1, aU, aU, aU] := by intros; unfold am_pad; rw [nl244]; rfl
theorem ln244 : 2 ≤ am_nL 244 := by rw [nl244]; decide
theorem rt248 : am_rt 248 = some .int := by decide +kernel
theorem o253 : am_oc 253 = 9 := by decide +kernel
theorem m9_238 : am_mlk 9 238 0 194 = true := by decide +kernel
theorem na194 : am_na 194 = 1 := by decide +kernel
theorem nl194 : am_nL 194 = 2 := by decide +kernel
theorem pd194 : ∀ a0 a1 : AV, am_pad 194 [a0, a1] = [a0, a1] := by intros; unfold am_pad; rw [nl194]; rfl
theorem ln194 : 2 ≤ am_nL 194 := by rw [nl194]; decide
theorem o194 : am_oc 194 = 9 := by decide +kernel
theorem m9_140 : am_mlk 9 140 1 164 = true := by decide +kernel
theorem na164 : am_na 164 = 3 := by decide +kernel
theorem nl164 : am_nL 164 = 3 := by decide +kernel
theorem pd164 : ∀ a0 a1 a2 : AV, am_pad 164 [a0, a1, a2] = [a0, a1, a2] := by intros; unfold am_pad; rw [nl164]; rfl
theorem ln164 : 3 ≤ am_nL 164 := by rw [nl164]; decide
theorem o164 : am_oc 164 = 9 := by decide +kernel
theorem rt164 : am_rt 164 = some .boolean := by decide +kernel
theorem rt194 : am_rt 194 = some .boolean := by decide +kernel
theorem rt253 : am_rt 253 = some .int := by decide +kernel
theorem t131 {g : AG} {M : AM} {Y P A V T K H X B W : Nat} {q s : Int → Int} {b : Int} (hSY : ShYard g Y P A V T K H X) (hST : ShTrial g T P A B W) (hSW : ShWorks g W P B) (hSP : ShPlan g P) (hSB : ShState g B) (hSA : ShState g A) (hRP : RepP M P q) (hRA : RepS M A s) (hQ : ValQ q) (hV : Val b q s) (hPB : P + 11 ≤ B ∨ B + 24 ≤ P) (hAB : A + 24 ≤ B ∨ B + 24 ≤ A) (hb : b + 7 ≤ 1000000) (hYd : M Y 6 = 1) :
    Ok 6 131 0 [aR Y, aU, aU, aU, aU, aU, aU] [] g M (Rt (some (aI (polS q s))) g (fun M9 => Wr B 24 M M9)) := by
  have yq0 : 0 ≤ q 0 ∧ q 0 ≤ 4 := Q_0 hQ
  have yq1 : 0 ≤ q 1 ∧ q 1 ≤ 6 := Q_1 hQ
  have ys3 : 0 ≤ s 3 ∧ s 3 ≤ 80 := V_3 hV
  have ys4 : 0 ≤ s 4 ∧ s 4 ≤ 16 := V_4 hV
  refine ok_aloadn (pc' := 1) i131_0 rfl rfl <| ok_cc i131_1 rfl (cl_v o131 m0_132 na99 rfl rfl (bt rfl) (bt rfl) rfl (by rw [ShYard_k0 hSY, o99])) ln99 (pd99 (aR Y)) <| ok_aloadn (pc' := 1) i99_0 rfl rfl <| ok_getfi (v := 1) (pc' := 4) i99_1 o99 gi0_268 (ShYard_k0 hSY) hYd rfl <| ok_kz1 (pc1 := 18) (pc2 := 7) i99_4 (by decide) rfl rfl <| ok_vret i99_18 rt99 <| kt_0 (pc' := 4) rfl <| ok_iconst (pc' := 5) i131_4 rfl <| ?_
  refine ok_istoren (pc' := 6) (ls' := [aR Y, aI (-1), aU, aU, aU, aU, aU]) i131_5 (bt rfl) rfl rfl <| ok_iconst (pc' := 7) i131_6 rfl <| ok_istoren (pc' := 8) (ls' := [aR Y, aI (-1), aI 0, aU, aU, aU, aU]) i131_7 (bt rfl) rfl rfl <| ok_iconst (pc' := 9) i131_8 rfl <| ok_istoren (pc' := 10) (ls' := [aR Y, aI (-1), aI 0, aI 0, aU, aU, aU]) i131_9 (bt rfl) rfl rfl <| ok_iconst (pc' := 11) i131_10 rfl <| ok_istore (pc' := 13) (ls' := [aR Y, aI (-1), aI 0, aI 0, aI 0, aU, aU]) i131_11 (bt rfl) rfl rfl <| ?_
  refine ok_for (lo := 0) (n := 4) (f := polF q s) (a0 := -1) (fun x4 x1 ls M9 => Wr B 24 M M9 ∧ (-1 ≤ x1 ∧ x1 < x4) ∧ ∃ x2 x3 : Int, (0 ≤ x2 ∧ x2 ≤ 5400) ∧ (x1 ≠ -1 → x2 = fulN q s x1 ∧ x3 = lossS q s x1) ∧ ∃ w5 w6 : AV, am_cat w5 = 1 ∧ am_cat w6 = 1 ∧ ls = [aR Y, aI x1, aI x2, aI x3, aI x4, w5, w6]) ?_ ?_ _ _ ⟨Wr.rfl, by decide, 0, 0, by decide, fun h => absurd rfl h, aU, aU, rfl, rfl, rfl⟩
  · rintro x4 x1 ls M9 g1 g2 ⟨hW9, ha, x2, x3, hc, hx, w5, w6, hw5, hw6, rfl⟩ ih
    have g3 : x4 < 4 := by omega
    have hP9 : RepP M9 P q := RepP.fr hRP (fun a h1 h2 => hW9 a (by omega))
    have hA9 : RepS M9 A s := RepS.fr hRA (fun a h1 h2 => hW9 a (by omega))
    refine ok_iload (pc' := 15) i131_13 rfl rfl <| ok_iconst (pc' := 16) i131_15 rfl <| ?_
    refine ok_cgt (pc1 := 79) (pc2 := 19) i131_16 (by omega) rfl rfl (fun h9 => by exfalso; omega) (fun h1 => ?_)
    refine ok_aloadn (pc' := 20) i131_19 rfl rfl <| ok_getfr (r := T) (pc' := 23) i131_20 o131 gr0_55 (ShYard_k0 hSY) (ShYard_r10 hSY) rfl <| ok_iload (pc' := 25) i131_23 rfl rfl <| ?_
    refine ok_cn (pc' := 28) (d0 := 5) i131_25 rfl (cl_v o131 m0_247 na53 rfl rfl (bt rfl) (bt rfl) rfl (by rw [ShTrial_k0 hST, o53])) ln53 (pd53 (aR T) (aI x4)) (by omega) (t53 (x1 := x4) hST hSW hSP hSB hSA hP9 hA9 hQ hV (by omega) (by omega) (by omega) (by omega)) rfl (fun M2 p3 => ?_)
    have hFM2P : RepP M2 P q := RepP.fr hP9 (fun a h1 h2 => p3 a (by omega))
    have hFM2A : RepS M2 A s := RepS.fr hA9 (fun a h1 h2 => p3 a (by omega))
    have z61 : 0 ≤ (fulN q s x4) ∧ (fulN q s x4) ≤ 5400 := (out_ful hV x4).2
    refine ok_istore (pc' := 30) (ls' := [aR Y, aI x1, aI x2, aI x3, aI x4, aI (fulN q s x4), w6]) i131_28 (bt rfl) rfl rfl <| ok_aloadn (pc' := 31) i131_30 rfl rfl <| ok_getfr (r := T) (pc' := 34) i131_31 o131 gr0_55 (ShYard_k0 hSY) (ShYard_r10 hSY) rfl <| ok_iload (pc' := 36) i131_34 rfl rfl <| ?_
    refine ok_cn (pc' := 39) (d0 := 5) i131_36 rfl (cl_v o131 m0_250 na54 rfl rfl (bt rfl) (bt rfl) rfl (by rw [ShTrial_k0 hST, o54])) ln54 (pd54 (aR T) (aI x4)) (by omega) (t54 (x1 := x4) hST hSW hSP hSB hSA hFM2P hFM2A hQ hV (by omega) (by omega) (by omega) (by omega)) rfl (fun M4 p5 => ?_)
    have hFM4P : RepP M4 P q := RepP.fr hFM2P (fun a h1 h2 => p5 a (by omega))
    have hFM4A : RepS M4 A s := RepS.fr hFM2A (fun a h1 h2 => p5 a (by omega))
    refine ok_istore (pc' := 41) (ls' := [aR Y, aI x1, aI x2, aI x3, aI x4, aI (fulN q s x4), aI (lossS q s x4)]) i131_39 (bt rfl) rfl rfl <| ok_iloadn (pc' := 42) i131_41 rfl rfl <| ok_iconst (pc' := 43) i131_42 rfl <| ?_
    refine ok_ceq (pc1 := 64) (pc2 := 46) i131_43 (by omega) rfl rfl (fun h6 => ?_) (fun h6 => ?_)
    · refine ok_iload (pc' := 66) i131_64 rfl rfl <| ok_istoren (pc' := 67) (ls' := [aR Y, aI x4, aI x2, aI x3, aI x4, aI (fulN q s x4), aI (lossS q s x4)]) i131_66 (bt rfl) rfl rfl <| ok_iload (pc' := 69) i131_67 rfl rfl <| ok_istoren (pc' := 70) (ls' := [aR Y, aI x4, aI (fulN q s x4), aI x3, aI x4, aI (fulN q s x4), aI (lossS q s x4)]) i131_69 (bt rfl) rfl rfl <| ok_iload (pc' := 72) i131_70 rfl rfl <| ok_istoren (pc' := 73) (ls' := [aR Y, aI x4, aI (fulN q s x4), aI (lossS q s x4), aI x4, aI (fulN q s x4), aI (lossS q s x4)]) i131_72 (bt rfl) rfl rfl <| ok_iinc (pc' := 76) (v := (x4 + 1)) (ls' := [aR Y, aI x4, aI (fulN q s x4), aI (lossS q s x4), aI (x4 + 1), aI (fulN q s x4), aI (lossS q s x4)]) i131_73 rfl rfl rfl rfl <| ok_goto (pc' := 13) i131_76 rfl <| ?_
      have e : polF q s x4 x1 = x4 := by unfold polF; grind
      exact ih _ _ ⟨Wr.trans hW9 (Wr.trans p3 p5), by rw [e]; omega, (fulN q s x4), (lossS q s x4), by omega, by rw [e]; intro h; grind, by rw [e]; exact ⟨aI _, aI _, rfl, rfl, rfl⟩⟩
    · refine ok_iload (pc' := 48) i131_46 rfl rfl <| ok_iloadn (pc' := 49) i131_48 rfl rfl <| ?_
      refine ok_cgt (pc1 := 64) (pc2 := 52) i131_49 (by omega) rfl rfl (fun h7 => ?_) (fun h7 => ?_)
      · refine ok_iload (pc' := 66) i131_64 rfl rfl <| ok_istoren (pc' := 67) (ls' := [aR Y, aI x4, aI x2, aI x3, aI x4, aI (fulN q s x4), aI (lossS q s x4)]) i131_66 (bt rfl) rfl rfl <| ok_iload (pc' := 69) i131_67 rfl rfl <| ok_istoren (pc' := 70) (ls' := [aR Y, aI x4, aI (fulN q s x4), aI x3, aI x4, aI (fulN q s x4), aI (lossS q s x4)]) i131_69 (bt rfl) rfl rfl <| ok_iload (pc' := 72) i131_70 rfl rfl <| ok_istoren (pc' := 73) (ls' := [aR Y, aI x4, aI (fulN q s x4), aI (lossS q s x4), aI x4, aI (fulN q s x4), aI (lossS q s x4)]) i131_72 (bt rfl) rfl rfl <| ok_iinc (pc' := 76) (v := (x4 + 1)) (ls' := [aR Y, aI x4, aI (fulN q s x4), aI (lossS q s x4), aI (x4 + 1), aI (fulN q s x4), aI (lossS q s x4)]) i131_73 rfl rfl rfl rfl <| ok_goto (pc' := 13) i131_76 rfl <| ?_
        have e : polF q s x4 x1 = x4 := by unfold polF; grind
        exact ih _ _ ⟨Wr.trans hW9 (Wr.trans p3 p5), by rw [e]; omega, (fulN q s x4), (lossS q s x4), by omega, by rw [e]; intro h; grind, by rw [e]; exact ⟨aI _, aI _, rfl, rfl, rfl⟩⟩
      · refine ok_iload (pc' := 54) i131_52 rfl rfl <| ok_iloadn (pc' := 55) i131_54 rfl rfl <| ?_
        refine ok_cne (pc1 := 73) (pc2 := 58) i131_55 (by omega) rfl rfl (fun h8 => ?_) (fun h8 => ?_)
        · refine ok_iinc (pc' := 76) (v := (x4 + 1)) (ls' := [aR Y, aI x1, aI x2, aI x3, aI (x4 + 1), aI (fulN q s x4), aI (lossS q s x4)]) i131_73 rfl rfl rfl rfl <| ok_goto (pc' := 13) i131_76 rfl <| ?_
          have e : polF q s x4 x1 = x1 := by unfold polF; grind
          exact ih _ _ ⟨Wr.trans hW9 (Wr.trans p3 p5), by rw [e]; omega, x2, x3, by omega, by rw [e]; intro h; grind, by rw [e]; exact ⟨aI _, aI _, rfl, rfl, rfl⟩⟩
        · refine ok_iload (pc' := 60) i131_58 rfl rfl <| ok_iloadn (pc' := 61) i131_60 rfl rfl <| ?_
          refine ok_cgew (pc1 := 73) (pc2 := 64) i131_61 rfl rfl (fun h9 => ?_) (fun h9 => ?_)
          · refine ok_iinc (pc' := 76) (v := (x4 + 1)) (ls' := [aR Y, aI x1, aI x2, aI x3, aI (x4 + 1), aI (fulN q s x4), aI (lossS q s x4)]) i131_73 rfl rfl rfl rfl <| ok_goto (pc' := 13) i131_76 rfl <| ?_
            have e : polF q s x4 x1 = x1 := by unfold polF; grind
            exact ih _ _ ⟨Wr.trans hW9 (Wr.trans p3 p5), by rw [e]; omega, x2, x3, by omega, by rw [e]; intro h; grind, by rw [e]; exact ⟨aI _, aI _, rfl, rfl, rfl⟩⟩
          · refine ok_iload (pc' := 66) i131_64 rfl rfl <| ok_istoren (pc' := 67) (ls' := [aR Y, aI x4, aI x2, aI x3, aI x4, aI (fulN q s x4), aI (lossS q s x4)]) i131_66 (bt rfl) rfl rfl <| ok_iload (pc' := 69) i131_67 rfl rfl <| ok_istoren (pc' := 70) (ls' := [aR Y, aI x4, aI (fulN q s x4), aI x3, aI x4, aI (fulN q s x4), aI (lossS q s x4)]) i131_69 (bt rfl) rfl rfl <| ok_iload (pc' := 72) i131_70 rfl rfl <| ok_istoren (pc' := 73) (ls' := [aR Y, aI x4, aI (fulN q s x4), aI (lossS q s x4), aI x4, aI (fulN q s x4), aI (lossS q s x4)]) i131_72 (bt rfl) rfl rfl <| ok_iinc (pc' := 76) (v := (x4 + 1)) (ls' := [aR Y, aI x4, aI (fulN q s x4), aI (lossS q s x4), aI (x4 + 1), aI (fulN q s x4), aI (lossS q s x4)]) i131_73 rfl rfl rfl rfl <| ok_goto (pc' := 13) i131_76 rfl <| ?_
            have e : polF q s x4 x1 = x4 := by unfold polF; grind
            exact ih _ _ ⟨Wr.trans hW9 (Wr.trans p3 p5), by rw [e]; omega, (fulN q s x4), (lossS q s x4), by omega, by rw [e]; intro h; grind, by rw [e]; exact ⟨aI _, aI _, rfl, rfl, rfl⟩⟩
  · rintro x4 x1 ls M9 g1 g2 ⟨hW9, ha, x2, x3, hc, hx, w5, w6, hw5, hw6, rfl⟩
    have g3 : x4 = 4 := by omega
    have hP9 : RepP M9 P q := RepP.fr hRP (fun a h1 h2 => hW9 a (by omega))
    have hA9 : RepS M9 A s := RepS.fr hRA (fun a h1 h2 => hW9 a (by omega))
    refine ok_iload (pc' := 15) i131_13 rfl rfl <| ok_iconst (pc' := 16) i131_15 rfl <| ?_
    refine ok_cgt (pc1 := 79) (pc2 := 19) i131_16 (by omega) rfl rfl (fun h1 => ?_) (fun h9 => by exfalso; omega)
    refine ok_iloadn (pc' := 80) i131_79 rfl rfl <| ok_ireti i131_80 rt131 <| ?_
    exact ⟨by unfold polS; rw [g2], rfl, hW9⟩
theorem t248 {g : AG} {M : AM} {O : Nat} {s q : Int → Int} {b : Int} (hSO : ShModel g O) (hRO : RepO M O q s) (hV : Val b q s) (hQ : ValQ q) (hb : b + 7 ≤ 1000000) (hYd : M O 1 = 1) :
    Ok 8 248 0 [aR O, aU, aU, aU] [] g M (Rt (some (aI (polS q s))) g (fun M9 => WI (up2 M O 0 0) M9 O)) := by
  have ys3 : 0 ≤ s 3 ∧ s 3 ≤ 80 := V_3 hV
  have ys4 : 0 ≤ s 4 ∧ s 4 ≤ 16 := V_4 hV
  have yq0 : 0 ≤ q 0 ∧ q 0 ≤ 4 := Q_0 hQ
  have yq1 : 0 ≤ q 1 ∧ q 1 ≤ 6 := Q_1 hQ
  refine ok_aloadn (pc' := 1) i248_0 rfl rfl <| ok_cc i248_1 rfl (cl_v o248 m9_216 na188 rfl rfl (bt rfl) (bt rfl) rfl (by rw [ShModel_k0 hSO, o188])) ln188 (pd188 (aR O)) <| ok_aloadn (pc' := 1) i188_0 rfl rfl <| ok_iconst (pc' := 2) i188_1 rfl <| ok_putfi (pc' := 5) i188_2 o188 pi188_63 (ShModel_k0 hSO) rfl <| ok_aloadn (pc' := 6) i188_5 rfl rfl <| ok_aloadn (pc' := 7) i188_6 rfl rfl <| ok_getfi (v := 1) (pc' := 10) i188_7 o188 gi9_66 (ShModel_k0 hSO) (rd_ni (by decide) hYd) rfl <| ?_
  refine ok_kz1 (pc1 := 17) (pc2 := 13) i188_10 (by decide) rfl rfl <| ok_iconst (pc' := 18) i188_17 rfl <| ok_iconst (pc' := 19) i188_18 rfl <| ok_cc i188_19 rfl (cl_v o188 m9_70 na165 rfl rfl (bt rfl) (bt rfl) rfl (by rw [ShModel_k0 hSO, o165])) ln165 (pd165 (aR O) (aI 0) (aI 1)) <| ok_aloadn (pc' := 1) i165_0 rfl rfl <| ok_getfi (v := 0) (pc' := 4) i165_1 o165 gi9_63 (ShModel_k0 hSO) rd_eq rfl <| ok_kz0 (pc1 := 16) (pc2 := 7) i165_4 (by decide) rfl rfl <| ok_iloadn (pc' := 8) i165_7 rfl rfl <| ?_
  refine ok_kz1 (pc1 := 16) (pc2 := 11) i165_8 (by decide) rfl rfl <| ok_aloadn (pc' := 17) i165_16 rfl rfl <| ok_getfi (v := 0) (pc' := 20) i165_17 o165 gi9_63 (ShModel_k0 hSO) rd_eq rfl <| ok_kz1 (pc1 := 27) (pc2 := 23) i165_20 (by decide) rfl rfl <| ok_iconst (pc' := 28) i165_27 rfl <| ok_iretz i165_28 rt165 (by decide) <| kt_v (pc' := 22) rfl <| ok_iretz i188_22 rt188 (by decide) <| ?_
  refine kt_v (pc' := 4) rfl <| ok_kz1 (pc1 := 9) (pc2 := 7) i248_4 (by decide) rfl rfl <| ok_iconst (pc' := 10) i248_9 rfl <| ok_istoren (pc' := 11) (ls' := [aR O, aI 0, aU, aU]) i248_10 (bt rfl) rfl rfl <| ok_iconst (pc' := 12) i248_11 rfl <| ok_istoren (pc' := 13) (ls' := [aR O, aI 0, aI 1, aU]) i248_12 (bt rfl) rfl rfl <| ?_
  obtain ⟨M8, hM8⟩ : ∃ u9 : AM, u9 = (up2 M O 0 0) := ⟨_, rfl⟩
  show Ok _ _ _ _ _ _ (up2 M O 0 0) _
  rw [← hM8]
  have hR8 : RepO M8 O q s := by rw [hM8]; exact (RepO.th hRO (by decide))
  refine ok_for (lo := 1) (n := 3) (f := polF q s) (a0 := 0) (fun x2 x1 ls M9 => WI M8 M9 O ∧ (0 ≤ x1 ∧ x1 < x2) ∧ ∃ w3 : AV, am_cat w3 = 1 ∧ ls = [aR O, aI x1, aI x2, w3]) ?_ ?_ _ _ ⟨WI.rfl, by decide, aU, rfl, rfl⟩
  · rintro x2 x1 ls M9 g1 g2 ⟨hW9, ha, w3, hw3, rfl⟩ ih
    have g3 : x2 < 4 := by omega
    have hR9 : RepO M9 O q s := hW9.repO hR8
    refine ok_iloadn (pc' := 14) i248_13 rfl rfl <| ok_iconst (pc' := 15) i248_14 rfl <| ?_
    refine ok_cge (pc1 := 63) (pc2 := 18) i248_15 (by omega) rfl rfl (fun h9 => by exfalso; omega) (fun h1 => ?_)
    refine ok_aloadn (pc' := 19) i248_18 rfl rfl <| ok_iloadn (pc' := 20) i248_19 rfl rfl <| ?_
    refine ok_cn (pc' := 23) (d0 := 7) i248_20 rfl (cl_v o248 m9_329 na233 rfl rfl (bt rfl) (bt rfl) rfl (by rw [ShModel_k0 hSO, o233])) ln233 (pd233 (aR O) (aI x2)) (by omega) (t233 (x1 := x2) hSO hR9 hV hQ (by omega) (by omega)) rfl (fun M2 p3 => ?_)
    have hFM2 : RepO M2 O q s := p3.repO hR9
    have z61 : 0 ≤ (fulN q s x2) ∧ (fulN q s x2) ≤ 5400 := (out_ful hV x2).2
    refine ok_aloadn (pc' := 24) i248_23 rfl rfl <| ok_iloadn (pc' := 25) i248_24 rfl rfl <| ?_
    refine ok_cn (pc' := 28) (d0 := 7) i248_25 rfl (cl_v o248 m9_329 na233 rfl rfl (bt rfl) (bt rfl) rfl (by rw [ShModel_k0 hSO, o233])) ln233 (pd233 (aR O) (aI x1)) (by omega) (t233 (x1 := x1) hSO hFM2 hV hQ (by omega) (by omega)) rfl (fun M4 p5 => ?_)
    have hFM4 : RepO M4 O q s := p5.repO hFM2
    have z62 : 0 ≤ (fulN q s x1) ∧ (fulN q s x1) ≤ 5400 := (out_ful hV x1).2
    refine ok_isub (v := ((fulN q s x2) - (fulN q s x1))) (pc' := 29) i248_28 rfl rfl <| ok_istoren (pc' := 30) (ls' := [aR O, aI x1, aI x2, aI ((fulN q s x2) - (fulN q s x1))]) i248_29 (bt rfl) rfl rfl <| ok_iloadn (pc' := 31) i248_30 rfl rfl <| ?_
    refine ok_zgt (pc1 := 51) (pc2 := 34) i248_31 (by omega) rfl rfl (fun h6 => ?_) (fun h6 => ?_)
    · refine ok_iloadn (pc' := 52) i248_51 rfl rfl <| ok_goto (pc' := 56) i248_52 rfl <| ok_istoren (pc' := 57) (ls' := [aR O, aI x2, aI x2, aI ((fulN q s x2) - (fulN q s x1))]) i248_56 (bt rfl) rfl rfl <| ok_iinc (pc' := 60) (v := (x2 + 1)) (ls' := [aR O, aI x2, aI (x2 + 1), aI ((fulN q s x2) - (fulN q s x1))]) i248_57 rfl rfl rfl rfl <| ok_goto (pc' := 13) i248_60 rfl <| ?_
      have e : polF q s x2 x1 = x2 := by unfold polF; grind
      exact ih _ _ ⟨WI.trans hW9 (WI.trans p3 p5), by rw [e]; omega, by rw [e]; exact ⟨aI _, rfl, rfl⟩⟩
    · refine ok_iloadn (pc' := 35) i248_34 rfl rfl <| ?_
      refine ok_zne (pc1 := 55) (pc2 := 38) i248_35 (by omega) rfl rfl (fun h7 => ?_) (fun h7 => ?_)
      · refine ok_iloadn (pc' := 56) i248_55 rfl rfl <| ok_istoren (pc' := 57) (ls' := [aR O, aI x1, aI x2, aI ((fulN q s x2) - (fulN q s x1))]) i248_56 (bt rfl) rfl rfl <| ok_iinc (pc' := 60) (v := (x2 + 1)) (ls' := [aR O, aI x1, aI (x2 + 1), aI ((fulN q s x2) - (fulN q s x1))]) i248_57 rfl rfl rfl rfl <| ok_goto (pc' := 13) i248_60 rfl <| ?_
        have e : polF q s x2 x1 = x1 := by unfold polF; grind
        exact ih _ _ ⟨WI.trans hW9 (WI.trans p3 p5), by rw [e]; omega, by rw [e]; exact ⟨aI _, rfl, rfl⟩⟩
      · refine ok_aloadn (pc' := 39) i248_38 rfl rfl <| ok_iloadn (pc' := 40) i248_39 rfl rfl <| ?_
        refine ok_cn (pc' := 43) (d0 := 7) i248_40 rfl (cl_v o248 m9_332 na244 rfl rfl (bt rfl) (bt rfl) rfl (by rw [ShModel_k0 hSO, o244])) ln244 (pd244 (aR O) (aI x2)) (by omega) (t244 (x1 := x2) hSO hFM4 hV hQ (by omega) (by omega)) rfl (fun M8 p9 => ?_)
        have hFM8 : RepO M8 O q s := p9.repO hFM4
        refine ok_aloadn (pc' := 44) i248_43 rfl rfl <| ok_iloadn (pc' := 45) i248_44 rfl rfl <| ?_
        refine ok_cn (pc' := 48) (d0 := 7) i248_45 rfl (cl_v o248 m9_332 na244 rfl rfl (bt rfl) (bt rfl) rfl (by rw [ShModel_k0 hSO, o244])) ln244 (pd244 (aR O) (aI x1)) (by omega) (t244 (x1 := x1) hSO hFM8 hV hQ (by omega) (by omega)) rfl (fun M10 p11 => ?_)
        have hFM10 : RepO M10 O q s := p11.repO hFM8
        refine ok_cgew (pc1 := 55) (pc2 := 51) i248_48 rfl rfl (fun h12 => ?_) (fun h12 => ?_)
        · refine ok_iloadn (pc' := 56) i248_55 rfl rfl <| ok_istoren (pc' := 57) (ls' := [aR O, aI x1, aI x2, aI ((fulN q s x2) - (fulN q s x1))]) i248_56 (bt rfl) rfl rfl <| ok_iinc (pc' := 60) (v := (x2 + 1)) (ls' := [aR O, aI x1, aI (x2 + 1), aI ((fulN q s x2) - (fulN q s x1))]) i248_57 rfl rfl rfl rfl <| ok_goto (pc' := 13) i248_60 rfl <| ?_
          have e : polF q s x2 x1 = x1 := by unfold polF; grind
          exact ih _ _ ⟨WI.trans hW9 (WI.trans (WI.trans (WI.trans p3 p5) p9) p11), by rw [e]; omega, by rw [e]; exact ⟨aI _, rfl, rfl⟩⟩
        · refine ok_iloadn (pc' := 52) i248_51 rfl rfl <| ok_goto (pc' := 56) i248_52 rfl <| ok_istoren (pc' := 57) (ls' := [aR O, aI x2, aI x2, aI ((fulN q s x2) - (fulN q s x1))]) i248_56 (bt rfl) rfl rfl <| ok_iinc (pc' := 60) (v := (x2 + 1)) (ls' := [aR O, aI x2, aI (x2 + 1), aI ((fulN q s x2) - (fulN q s x1))]) i248_57 rfl rfl rfl rfl <| ok_goto (pc' := 13) i248_60 rfl <| ?_
          have e : polF q s x2 x1 = x2 := by unfold polF; grind
          exact ih _ _ ⟨WI.trans hW9 (WI.trans (WI.trans (WI.trans p3 p5) p9) p11), by rw [e]; omega, by rw [e]; exact ⟨aI _, rfl, rfl⟩⟩
  · rintro x2 x1 ls M9 g1 g2 ⟨hW9, ha, w3, hw3, rfl⟩
    have g3 : x2 = 4 := by omega
    have hR9 : RepO M9 O q s := hW9.repO hR8
    refine ok_iloadn (pc' := 14) i248_13 rfl rfl <| ok_iconst (pc' := 15) i248_14 rfl <| ?_
    refine ok_cge (pc1 := 63) (pc2 := 18) i248_15 (by omega) rfl rfl (fun h1 => ?_) (fun h9 => by exfalso; omega)
    refine ok_iloadn (pc' := 64) i248_63 rfl rfl <| ok_ireti i248_64 rt248 <| ?_
    exact ⟨by rw [← pol_eq, g2], rfl, hW9⟩
theorem t253 {g : AG} {M : AM} {O : Nat} {s q : Int → Int} {b : Int} {x1 : Int} (hSO : ShModel g O) (hRO : RepO M O q s) (hV : Val b q s) (hQ : ValQ q) (hk : 0 ≤ x1 ∧ x1 < q 0) (h3 : s 3 ≤ 40) (hb : b + 50 ≤ 1000000) (hYd : M O 1 = 1) :
    Ok 7 253 0 [aR O, aI x1, aU, aU, aU] [] g M (Rt (some (aI (rndS q s x1))) g (fun M9 => WI (up2 M O 0 0) M9 O)) := by
  have ys3 : 0 ≤ s 3 ∧ s 3 ≤ 80 := V_3 hV
  have ys4 : 0 ≤ s 4 ∧ s 4 ≤ 16 := V_4 hV
  have yq0 : 0 ≤ q 0 ∧ q 0 ≤ 4 := Q_0 hQ
  have yq1 : 0 ≤ q 1 ∧ q 1 ≤ 6 := Q_1 hQ
  refine ok_aloadn (pc' := 1) i253_0 rfl rfl <| ok_iloadn (pc' := 2) i253_1 rfl rfl <| ok_cc i253_2 rfl (cl_v o253 m9_238 na194 rfl rfl (bt rfl) (bt rfl) rfl (by rw [ShModel_k0 hSO, o194])) ln194 (pd194 (aR O) (aI x1)) <| ok_aloadn (pc' := 1) i194_0 rfl rfl <| ok_cc i194_1 rfl (cl_v o194 m9_216 na188 rfl rfl (bt rfl) (bt rfl) rfl (by rw [ShModel_k0 hSO, o188])) ln188 (pd188 (aR O)) <| ok_aloadn (pc' := 1) i188_0 rfl rfl <| ok_iconst (pc' := 2) i188_1 rfl <| ok_putfi (pc' := 5) i188_2 o188 pi188_63 (ShModel_k0 hSO) rfl <| ?_
  refine ok_aloadn (pc' := 6) i188_5 rfl rfl <| ok_aloadn (pc' := 7) i188_6 rfl rfl <| ok_getfi (v := 1) (pc' := 10) i188_7 o188 gi9_66 (ShModel_k0 hSO) (rd_ni (by decide) hYd) rfl <| ok_kz1 (pc1 := 17) (pc2 := 13) i188_10 (by decide) rfl rfl <| ok_iconst (pc' := 18) i188_17 rfl <| ok_iconst (pc' := 19) i188_18 rfl <| ok_cc i188_19 rfl (cl_v o188 m9_70 na165 rfl rfl (bt rfl) (bt rfl) rfl (by rw [ShModel_k0 hSO, o165])) ln165 (pd165 (aR O) (aI 0) (aI 1)) <| ok_aloadn (pc' := 1) i165_0 rfl rfl <| ?_
  refine ok_getfi (v := 0) (pc' := 4) i165_1 o165 gi9_63 (ShModel_k0 hSO) rd_eq rfl <| ok_kz0 (pc1 := 16) (pc2 := 7) i165_4 (by decide) rfl rfl <| ok_iloadn (pc' := 8) i165_7 rfl rfl <| ok_kz1 (pc1 := 16) (pc2 := 11) i165_8 (by decide) rfl rfl <| ok_aloadn (pc' := 17) i165_16 rfl rfl <| ok_getfi (v := 0) (pc' := 20) i165_17 o165 gi9_63 (ShModel_k0 hSO) rd_eq rfl <| ok_kz1 (pc1 := 27) (pc2 := 23) i165_20 (by decide) rfl rfl <| ok_iconst (pc' := 28) i165_27 rfl <| ?_
  refine ok_iretz i165_28 rt165 (by decide) <| kt_v (pc' := 22) rfl <| ok_iretz i188_22 rt188 (by decide) <| kt_v (pc' := 4) rfl <| ok_kz0 (pc1 := 34) (pc2 := 7) i194_4 (by decide) rfl rfl <| ok_aloadn (pc' := 8) i194_7 rfl rfl <| ok_iloadn (pc' := 9) i194_8 rfl rfl <| ok_iconst (pc' := 10) i194_9 rfl <| ?_
  refine ok_aloadn (pc' := 11) i194_10 rfl rfl <| ok_getfi (v := (q 0)) (pc' := 14) i194_11 o194 gi9_203 (ShModel_k0 hSO) (rd_ni (by decide) (RepO_f2 hRO)) rfl <| ok_iconst (pc' := 15) i194_14 rfl <| ok_isub (v := ((q 0) - 1)) (pc' := 16) i194_15 rfl rfl <| ok_cc i194_16 rfl (cl_s o194 m9_140 na164 rfl rfl (bt rfl) (bt rfl) rfl) ln164 (pd164 (aI x1) (aI 0) (aI ((q 0) - 1))) <| ok_iloadn (pc' := 1) i164_0 rfl rfl <| ok_iloadn (pc' := 2) i164_1 rfl rfl <| ?_
  refine ok_clt (pc1 := 14) (pc2 := 5) i164_2 (by omega) rfl rfl (fun h9 => by exfalso; omega) (fun h1 => ?_)
  refine ok_iloadn (pc' := 6) i164_5 rfl rfl <| ok_iloadn (pc' := 7) i164_6 rfl rfl <| ?_
  refine ok_cgt (pc1 := 14) (pc2 := 10) i164_7 (by omega) rfl rfl (fun h9 => by exfalso; omega) (fun h2 => ?_)
  refine ok_iconst (pc' := 11) i164_10 rfl <| ok_goto (pc' := 15) i164_11 rfl <| ok_iretz i164_15 rt164 (by decide) <| kt_v (pc' := 19) rfl <| ok_kz1 (pc1 := 26) (pc2 := 22) i194_19 (by decide) rfl rfl <| ok_iconst (pc' := 27) i194_26 rfl <| ok_iconst (pc' := 28) i194_27 rfl <| ok_cc i194_28 rfl (cl_v o194 m9_70 na165 rfl rfl (bt rfl) (bt rfl) rfl (by rw [ShModel_k0 hSO, o165])) ln165 (pd165 (aR O) (aI 0) (aI 2)) <| ?_
  refine ok_aloadn (pc' := 1) i165_0 rfl rfl <| ok_getfi (v := 0) (pc' := 4) i165_1 o165 gi9_63 (ShModel_k0 hSO) rd_eq rfl <| ok_kz0 (pc1 := 16) (pc2 := 7) i165_4 (by decide) rfl rfl <| ok_iloadn (pc' := 8) i165_7 rfl rfl <| ok_kz1 (pc1 := 16) (pc2 := 11) i165_8 (by decide) rfl rfl <| ok_aloadn (pc' := 17) i165_16 rfl rfl <| ok_getfi (v := 0) (pc' := 20) i165_17 o165 gi9_63 (ShModel_k0 hSO) rd_eq rfl <| ok_kz1 (pc1 := 27) (pc2 := 23) i165_20 (by decide) rfl rfl <| ?_
  refine ok_iconst (pc' := 28) i165_27 rfl <| ok_iretz i165_28 rt165 (by decide) <| kt_v (pc' := 31) rfl <| ok_kz1 (pc1 := 38) (pc2 := 34) i194_31 (by decide) rfl rfl <| ok_iconst (pc' := 39) i194_38 rfl <| ok_iretz i194_39 rt194 (by decide) <| kt_v (pc' := 5) rfl <| ok_kz1 (pc1 := 10) (pc2 := 8) i253_5 (by decide) rfl rfl <| ?_
  refine ok_aloadn (pc' := 11) i253_10 rfl rfl <| ok_iconst (pc' := 12) i253_11 rfl <| ?_
  obtain ⟨M8, hM8⟩ : ∃ u9 : AM, u9 = (up2 M O 0 0) := ⟨_, rfl⟩
  show Ok _ _ _ _ _ _ (up2 M O 0 0) _
  rw [← hM8]
  have hR8 : RepO M8 O q s := by rw [hM8]; exact (RepO.th hRO (by decide))
  refine ok_cn0 (pc' := 15) (d0 := 0) i253_12 rfl (cl_v o253 m9_314 na234 rfl rfl (bt rfl) (bt rfl) rfl (by rw [ShModel_k0 hSO, o234])) ln234 (pd234 (aR O) (aI 0)) (by omega) (t234 (x1 := 0) hSO (by omega)) rfl (fun M3 p4 => ?_)
  have hKM3 : RepO M3 O q s := (keep_wi p4).repO hR8
  refine ok_iconst (pc' := 16) i253_15 rfl <| ok_istoren (pc' := 17) (ls' := [aR O, aI x1, aI 0, aU, aU]) i253_16 (bt rfl) rfl rfl <| ok_aloadn (pc' := 18) i253_17 rfl rfl <| ok_iconst (pc' := 19) i253_18 rfl <| ?_
  refine ok_cn (pc' := 22) (d0 := 6) i253_19 rfl (cl_v o253 m9_317 na235 rfl rfl (bt rfl) (bt rfl) rfl (by rw [ShModel_k0 hSO, o235])) ln235 (pd235 (aR O) (aI 1)) (by omega) (t235 (x1 := 1) hSO hKM3 hV hQ (by omega) (by omega)) rfl (fun M5 p6 => ?_)
  obtain ⟨s5, hs5⟩ : ∃ u9 : Int → Int, u9 = (fulS q s 1) := ⟨_, rfl⟩
  rw [← hs5] at p6
  have hRM5 : RepO M5 O q s5 := by rw [p6]; exact RepO.upm hKM3
  have hVM5 : Val (b) q s5 := by rw [hs5]; exact (ful_aft hV 1).1
  have z1 : 0 ≤ s5 3 ∧ s5 3 ≤ 80 := V_3 hVM5
  have z2 : 0 ≤ s5 4 ∧ s5 4 ≤ 16 := V_4 hVM5
  refine ok_istoren (pc' := 23) (ls' := [aR O, aI x1, aI 0, aI (fulN q s 1), aU]) i253_22 (bt rfl) rfl rfl <| ?_
  have e0 : s5 = rndN q s x1 0 := by rw [hs5]; exact fulS_1
  have hWK : WI M8 M3 O := keep_wi p4
  refine ok_while (σ := Nat) (fun n ls M9 => n ≤ 40 ∧ M9 = upM M3 (O + 5) (rndN q s x1 n) ∧ (∀ j : Nat, j < n → r20 (rndN q s x1 j) ≠ 0) ∧ ∃ (x3 : Int) (w4 : AV), am_cat w4 = 1 ∧ ls = [aR O, aI x1, aI (n : Int), aI x3, w4]) (fun n => 40 - n) ?_ 0 _ _ ⟨by omega, by rw [p6, e0], fun j hj => by omega, _, aU, rfl, rfl⟩
  rintro n ls M9 ⟨hn, hM, hj0, x3, w4, hw4, rfl⟩ ih
  have hRn := rnd_aft hV hk h3 hb n hn
  obtain ⟨t, ht⟩ : ∃ u9 : Int → Int, u9 = rndN q s x1 n := ⟨_, rfl⟩
  have hV9 : Val (b + n) q t := by rw [ht]; exact hRn.2.1
  obtain ⟨x2, hx⟩ : ∃ x : Int, x = (n : Int) := ⟨_, rfl⟩
  rw [← hx]
  have hn2 : 0 ≤ x2 ∧ x2 ≤ 40 := by omega
  have e3 : t 3 = s 3 + x2 := by rw [ht, hx]; exact hRn.2.2.2
  have hR9 : RepO M9 O q t := by rw [hM, ht]; exact RepO.upm hKM3
  have yt3 := V_3 hV9
  have yt4 := V_4 hV9
  rw [← ht] at hM
  refine ok_iloadn (pc' := 24) i253_23 rfl rfl <| ok_bipush (v := 40) (pc' := 26) i253_24 rfl rfl <| ?_
  refine ok_cge (pc1 := 61) (pc2 := 29) i253_26 (by omega) rfl rfl (fun h1 => ?_) (fun h1 => ?_)
  · refine ok_aloadn (pc' := 62) i253_61 rfl rfl <| ok_cp (pc' := 65) (d0 := 1) i253_62 rfl (cl_v o253 m9_235 na192 rfl rfl (bt rfl) (bt rfl) rfl (by rw [ShModel_k0 hSO, o192])) ln192 (pd192 (aR O)) (by omega) (t192 hSO hR9.toE hV9 hQ) rfl <| ?_
    have z61 : 0 ≤ (r192 t) ∧ (r192 t) ≤ 144 := x192 (M := M9) hSO hR9.toE hV9 hQ
    refine ok_zle (pc1 := 72) (pc2 := 68) i253_65 (by omega) rfl rfl (fun h2 => ?_) (fun h2 => ?_)
    · refine ok_iloadn (pc' := 73) i253_72 rfl rfl <| ok_istore (pc' := 75) (ls' := [aR O, aI x1, aI x2, aI x3, aI x2]) i253_73 (bt rfl) rfl rfl <| ok_aloadn (pc' := 76) i253_75 rfl rfl <| ok_iconst (pc' := 77) i253_76 rfl <| ?_
      refine ok_cn0 (pc' := 80) (d0 := 0) i253_77 rfl (cl_v o253 m9_323 na242 rfl rfl (bt rfl) (bt rfl) rfl (by rw [ShModel_k0 hSO, o242])) ln242 (pd242 (aR O) (aI 0)) (by omega) (t242k hSO p4 hM (by rw [hR8.1, ht]; exact hRn.2.2.1)) rfl (fun M3 p4 => ?_)
      refine ok_iload (pc' := 82) i253_80 rfl rfl <| ok_ireti i253_82 rt253 <| ?_
      subst ht
      have e9 : rndS q s x1 = x2 := hx ▸ rnd_at (by omega) hj0 (by have h8 : r192 (rndN q s x1 n) = r20 (rndN q s x1 n) := rfl; omega)
      exact ⟨by rw [e9], rfl, by rw [p4]; exact hWK⟩
    · refine ok_iconst (pc' := 69) i253_68 rfl <| ok_goto (pc' := 73) i253_69 rfl <| ok_istore (pc' := 75) (ls' := [aR O, aI x1, aI x2, aI x3, aI (-1)]) i253_73 (bt rfl) rfl rfl <| ok_aloadn (pc' := 76) i253_75 rfl rfl <| ok_iconst (pc' := 77) i253_76 rfl <| ?_
      refine ok_cn0 (pc' := 80) (d0 := 0) i253_77 rfl (cl_v o253 m9_323 na242 rfl rfl (bt rfl) (bt rfl) rfl (by rw [ShModel_k0 hSO, o242])) ln242 (pd242 (aR O) (aI 0)) (by omega) (t242k hSO p4 hM (by rw [hR8.1, ht]; exact hRn.2.2.1)) rfl (fun M5 p6 => ?_)
      refine ok_iload (pc' := 82) i253_80 rfl rfl <| ok_ireti i253_82 rt253 <| ?_
      subst ht
      have h9 : r20 (rndN q s x1 n) ≠ 0 := by have h8 : r192 (rndN q s x1 n) = r20 (rndN q s x1 n) := rfl; omega
      have e9 : rndS q s x1 = -1 := rnd_no (fun j hj => (Nat.lt_or_ge j n).elim (fun h => hj0 j h) (fun h => by rw [show j = n by omega]; exact h9))
      exact ⟨by rw [e9], rfl, by rw [p6]; exact hWK⟩
  · refine ok_aloadn (pc' := 30) i253_29 rfl rfl <| ok_cp (pc' := 33) (d0 := 1) i253_30 rfl (cl_v o253 m9_235 na192 rfl rfl (bt rfl) (bt rfl) rfl (by rw [ShModel_k0 hSO, o192])) ln192 (pd192 (aR O)) (by omega) (t192 hSO hR9.toE hV9 hQ) rfl <| ?_
    have z62 : 0 ≤ (r192 t) ∧ (r192 t) ≤ 144 := x192 (M := M9) hSO hR9.toE hV9 hQ
    refine ok_zle (pc1 := 61) (pc2 := 36) i253_33 (by omega) rfl rfl (fun h7 => ?_) (fun h7 => ?_)
    · refine ok_aloadn (pc' := 62) i253_61 rfl rfl <| ok_cp (pc' := 65) (d0 := 1) i253_62 rfl (cl_v o253 m9_235 na192 rfl rfl (bt rfl) (bt rfl) rfl (by rw [ShModel_k0 hSO, o192])) ln192 (pd192 (aR O)) (by omega) (t192 hSO hR9.toE hV9 hQ) rfl <| ?_
      refine ok_zle (pc1 := 72) (pc2 := 68) i253_65 (by omega) rfl rfl (fun h8 => ?_) (fun h9 => by exfalso; omega)
      refine ok_iloadn (pc' := 73) i253_72 rfl rfl <| ok_istore (pc' := 75) (ls' := [aR O, aI x1, aI x2, aI x3, aI x2]) i253_73 (bt rfl) rfl rfl <| ok_aloadn (pc' := 76) i253_75 rfl rfl <| ok_iconst (pc' := 77) i253_76 rfl <| ?_
      refine ok_cn0 (pc' := 80) (d0 := 0) i253_77 rfl (cl_v o253 m9_323 na242 rfl rfl (bt rfl) (bt rfl) rfl (by rw [ShModel_k0 hSO, o242])) ln242 (pd242 (aR O) (aI 0)) (by omega) (t242k hSO p4 hM (by rw [hR8.1, ht]; exact hRn.2.2.1)) rfl (fun M9 p10 => ?_)
      refine ok_iload (pc' := 82) i253_80 rfl rfl <| ok_ireti i253_82 rt253 <| ?_
      subst ht
      have e9 : rndS q s x1 = x2 := hx ▸ rnd_at (by omega) hj0 (by have h8 : r192 (rndN q s x1 n) = r20 (rndN q s x1 n) := rfl; omega)
      exact ⟨by rw [e9], rfl, by rw [p10]; exact hWK⟩
    · refine ok_aloadn (pc' := 37) i253_36 rfl rfl <| ok_iloadn (pc' := 38) i253_37 rfl rfl <| ?_
      refine ok_cn0 (pc' := 41) (d0 := 0) i253_38 rfl (cl_v o253 m9_335 na251 rfl rfl (bt rfl) (bt rfl) rfl (by rw [ShModel_k0 hSO, o251])) ln251 (pd251 (aR O) (aI x1)) (by omega) (t251 (x1 := x1) hSO hR9 hV9 hQ (by omega) (by omega)) rfl (fun M11 p12 => ?_)
      obtain ⟨s11, hs11⟩ : ∃ u9 : Int → Int, u9 = addS q t x1 := ⟨_, rfl⟩
      rw [← hs11] at p12
      have hRM11 : RepO M11 O q s11 := by rw [p12]; exact RepO.upm hR9
      have hVM11 : Val (b + n) q s11 := by rw [hs11]; exact V_add hV9 (by omega) (by omega) (Q_2 hQ (by omega) (by omega))
      have z63 : 0 ≤ s11 3 ∧ s11 3 ≤ 80 := V_3 hVM11
      have z64 : 0 ≤ s11 4 ∧ s11 4 ≤ 16 := V_4 hVM11
      have z65 : s11 3 = t 3 + 1 := by rw [hs11]; exact upI_eq
      refine ok_aloadn (pc' := 42) i253_41 rfl rfl <| ?_
      refine ok_cn (pc' := 45) (d0 := 2) i253_42 rfl (cl_v o253 m9_320 na245 rfl rfl (bt rfl) (bt rfl) rfl (by rw [ShModel_k0 hSO, o245])) ln245 (pd245 (aR O)) (by omega) (t245 hSO hRM11 hVM11 hQ) rfl (fun M13 p14 => ?_)
      obtain ⟨s13, hs13⟩ : ∃ u9 : Int → Int, u9 = (endS q s11) := ⟨_, rfl⟩
      rw [← hs13] at p14
      have hRM13 : RepO M13 O q s13 := by rw [p14]; exact RepO.upm hRM11
      have hVM13 : Val (b + n + 1) q s13 := by rw [hs13]; exact (end_aft hVM11 (by omega)).1
      have z66 : 0 ≤ s13 3 ∧ s13 3 ≤ 80 := V_3 hVM13
      have z67 : 0 ≤ s13 4 ∧ s13 4 ≤ 16 := V_4 hVM13
      have z68 : s13 3 = s11 3 := by rw [hs13]; exact (end_aft hVM11 (by omega)).2.2.1
      refine ok_istore (pc' := 47) (ls' := [aR O, aI x1, aI x2, aI x3, aI (endN q s11)]) i253_45 (bt rfl) rfl rfl <| ok_iinc (pc' := 50) (v := (x2 + 1)) (ls' := [aR O, aI x1, aI (x2 + 1), aI x3, aI (endN q s11)]) i253_47 rfl rfl rfl rfl <| ok_iloadn (pc' := 51) i253_50 rfl rfl <| ok_aloadn (pc' := 52) i253_51 rfl rfl <| ok_iconst (pc' := 53) i253_52 rfl <| ?_
      refine ok_cn (pc' := 56) (d0 := 6) i253_53 rfl (cl_v o253 m9_317 na235 rfl rfl (bt rfl) (bt rfl) rfl (by rw [ShModel_k0 hSO, o235])) ln235 (pd235 (aR O) (aI 1)) (by omega) (t235 (x1 := 1) hSO hRM13 hVM13 hQ (by omega) (by omega)) rfl (fun M15 p16 => ?_)
      obtain ⟨s15, hs15⟩ : ∃ u9 : Int → Int, u9 = (fulS q s13 1) := ⟨_, rfl⟩
      rw [← hs15] at p16
      have hRM15 : RepO M15 O q s15 := by rw [p16]; exact RepO.upm hRM13
      have hVM15 : Val (b + n + 1) q s15 := by rw [hs15]; exact (ful_aft hVM13 1).1
      have z69 : 0 ≤ s15 3 ∧ s15 3 ≤ 80 := V_3 hVM15
      have z70 : 0 ≤ s15 4 ∧ s15 4 ≤ 16 := V_4 hVM15
      refine ok_iadd (v := (x3 + (fulN q s13 1))) (pc' := 57) i253_56 rfl rfl <| ok_istoren (pc' := 58) (ls' := [aR O, aI x1, aI (x2 + 1), aI (x3 + (fulN q s13 1)), aI (endN q s11)]) i253_57 (bt rfl) rfl rfl <| ok_goto (pc' := 23) i253_58 rfl <| ?_
      subst ht
      have hne : r20 (rndN q s x1 n) ≠ 0 := by have h8 : r192 (rndN q s x1 n) = r20 (rndN q s x1 n) := rfl; omega
      have en : s15 = rndN q s x1 (n + 1) := by rw [hs15, hs13, hs11]; exact fulS_1
      refine ih (n + 1) _ _ (by omega) ⟨by omega, ?_, fun j hj => ?_, _, aI _, rfl, by rw [show ((n + 1 : Nat) : Int) = x2 + 1 by omega]⟩
      · rw [p16, p14, p12, hM, upM_upM, upM_upM, upM_upM, en]
      · rcases Nat.lt_or_ge j n with h | h
        · exact hj0 j h
        · rw [show j = n by omega]; exact hne
