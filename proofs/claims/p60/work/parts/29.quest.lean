/-! QUESTIONS (by program, wip/gen) -/
theorem o37 : am_oc 37 = 8 := by decide +kernel
theorem gr8_9 : am_gfr 8 9 8 0 = true := by decide +kernel
theorem gr8_40 : am_gfr 8 40 4 4 = true := by decide +kernel
theorem rt37 : am_rt 37 = some .int := by decide +kernel
theorem gr8_43 : am_gfr 8 43 4 5 = true := by decide +kernel
theorem m8_46 : am_mlk 8 46 0 33 = true := by decide +kernel
theorem na33 : am_na 33 = 2 := by decide +kernel
theorem nl33 : am_nL 33 = 3 := by decide +kernel
theorem pd33 : ∀ a0 a1 a2 : AV, am_pad 33 [a0, a1, a2] = [a0, a1, a2] := by intros; unfold am_pad; rw [nl33]; rfl
theorem ln33 : 3 ≤ am_nL 33 := by rw [nl33]; decide
theorem o33 : am_oc 33 = 8 := by decide +kernel
theorem gr8_31 : am_gfr 8 31 5 1 = true := by decide +kernel
theorem m8_34 : am_mlk 8 34 6 0 = true := by decide +kernel
theorem rt33 : am_rt 33 = some .int := by decide +kernel
theorem o38 : am_oc 38 = 8 := by decide +kernel
theorem rt38 : am_rt 38 = some .int := by decide +kernel
theorem m8_57 : am_mlk 8 57 0 37 = true := by decide +kernel
theorem na37 : am_na 37 = 2 := by decide +kernel
theorem nl37 : am_nL 37 = 6 := by decide +kernel
theorem pd37 : ∀ a0 a1 a2 : AV, am_pad 37 [a0, a1, a2] = [a0, a1, a2, aU, aU, aU] := by intros; unfold am_pad; rw [nl37]; rfl
theorem ln37 : 3 ≤ am_nL 37 := by rw [nl37]; decide
theorem o40 : am_oc 40 = 8 := by decide +kernel
theorem rt40 : am_rt 40 = some .int := by decide +kernel
theorem o39 : am_oc 39 = 8 := by decide +kernel
theorem rt39 : am_rt 39 = some .boolean := by decide +kernel
theorem m8_60 : am_mlk 8 60 0 40 = true := by decide +kernel
theorem na40 : am_na 40 = 2 := by decide +kernel
theorem nl40 : am_nL 40 = 6 := by decide +kernel
theorem pd40 : ∀ a0 a1 a2 : AV, am_pad 40 [a0, a1, a2] = [a0, a1, a2, aU, aU, aU] := by intros; unfold am_pad; rw [nl40]; rfl
theorem ln40 : 3 ≤ am_nL 40 := by rw [nl40]; decide
theorem m8_63 : am_mlk 8 63 0 22 = true := by decide +kernel
theorem na22 : am_na 22 = 1 := by decide +kernel
theorem nl22 : am_nL 22 = 4 := by decide +kernel
theorem pd22 : ∀ a0 a1 : AV, am_pad 22 [a0, a1] = [a0, a1, aU, aU] := by intros; unfold am_pad; rw [nl22]; rfl
theorem ln22 : 2 ≤ am_nL 22 := by rw [nl22]; decide
theorem o47 : am_oc 47 = 8 := by decide +kernel
theorem m8_112 : am_mlk 8 112 0 23 = true := by decide +kernel
theorem na23 : am_na 23 = 0 := by decide +kernel
theorem nl23 : am_nL 23 = 4 := by decide +kernel
theorem pd23 : ∀ a0 : AV, am_pad 23 [a0] = [a0, aU, aU, aU] := by intros; unfold am_pad; rw [nl23]; rfl
theorem ln23 : 1 ≤ am_nL 23 := by rw [nl23]; decide
theorem m8_118 : am_mlk 8 118 0 24 = true := by decide +kernel
theorem na24 : am_na 24 = 1 := by decide +kernel
theorem nl24 : am_nL 24 = 4 := by decide +kernel
theorem pd24 : ∀ a0 a1 : AV, am_pad 24 [a0, a1] = [a0, a1, aU, aU] := by intros; unfold am_pad; rw [nl24]; rfl
theorem ln24 : 2 ≤ am_nL 24 := by rw [nl24]; decide
theorem gr8_90 : am_gfr 8 90 5 5 = true := by decide +kernel
theorem rt47 : am_rt 47 = some .int := by decide +kernel
theorem m8_115 : am_mlk 8 115 0 27 = true := by decide +kernel
theorem na27 : am_na 27 = 1 := by decide +kernel
theorem nl27 : am_nL 27 = 5 := by decide +kernel
theorem pd27 : ∀ a0 a1 : AV, am_pad 27 [a0, a1] = [a0, a1, aU, aU, aU] := by intros; unfold am_pad; rw [nl27]; rfl
theorem ln27 : 2 ≤ am_nL 27 := by rw [nl27]; decide
theorem gi4_26 : am_gfi 4 26 4 0 = true := by decide +kernel
theorem o9 : am_oc 9 = 4 := by decide +kernel
theorem rt9 : am_rt 9 = some .boolean := by decide +kernel
theorem gr4_9 : am_gfr 4 9 4 1 = true := by decide +kernel
theorem gr4_15 : am_gfr 4 15 4 2 = true := by decide +kernel
def f37 (q s : Int → Int) (x1 : Int) (x5 x3 : Int) : Int ⊕ Int := (if x3 = (-1) then (.inr x3) else (if (q (16 + ((6 * x1) + x5))) ≤ x3 then (.inl (max 0 ((x3 - (q (16 + ((6 * x1) + x5)))) - (s 1)))) else (.inl (-1))))
def k37 (x3 : Int) : Int := x3
def r37 (q s : Int → Int) (x1 x2 : Int) : Int := itr (itx (f37 q s x1) (s (94 + x2)) 0 ((q (10 + x1)).toNat)) (k37)
theorem u37 {g : AG} {M : AM} {W P B : Nat} {q s : Int → Int} {b : Int} {x1 x2 : Int} (hSW : ShWorks g W P B) (hSP : ShPlan g P) (hSB : ShState g B) (hRP : RepP M P q) (hRB : RepS M B s) (hQ : ValQ q) (hV : Val b q s) (h1 : 0 ≤ x1 ∧ x1 < q 1) (h2 : 0 ≤ x2 ∧ x2 < s 3) :
    Ok 1 37 0 [aR W, aI x1, aI x2, aU, aU, aU] [] g M (Rt (some (aI (r37 q s x1 x2))) g (fun M9 => M9 = M ∧ (-1 ≤ (r37 q s x1 x2) ∧ (r37 q s x1 x2) ≤ 200))) := by
  have yq0 : 0 ≤ q 0 ∧ q 0 ≤ 4 := Q_0 hQ
  have yq1 : 0 ≤ q 1 ∧ q 1 ≤ 6 := Q_1 hQ
  have ys3 : 0 ≤ s 3 ∧ s 3 ≤ 80 := V_3 hV
  have ys4 : 0 ≤ s 4 ∧ s 4 ≤ 16 := V_4 hV
  have t1 : 1 ≤ q (10 + x1) ∧ q (10 + x1) ≤ 6 := Q_10 hQ (by omega) (by omega)
  refine ok_aloadn (pc' := 1) i37_0 rfl rfl <| ok_getfr (r := B) (pc' := 4) i37_1 o37 gr8_15 (ShWorks_k0 hSW) (ShWorks_r1 hSW) rfl <| ok_getfr (r := (B + 2)) (pc' := 7) i37_4 o37 gr8_25 (ShState_k0 hSB) (ShState_r3 hSB) rfl <| ok_iconst (pc' := 8) i37_7 rfl <| ok_aaload (r := (B + 4)) (pc' := 9) i37_8 (ShState_k2 hSB) (by decide) (ShState_l2 hSB) (by decide) (ShState_e2_1 hSB) rfl <| ok_iloadn (pc' := 10) i37_9 rfl rfl <| ?_
  have z1 : 0 ≤ s (94 + x2) ∧ s (94 + x2) ≤ 200 := V_d1 hV (i := x2) (by omega) (by omega)
  refine ok_iaload (v := (s (94 + x2))) (pc' := 11) i37_10 (ShState_k4 hSB) (by decide) (ShState_l4 hSB) (by omega) (RepS_4 hRB (by omega) (by omega)) rfl <| ok_istoren (pc' := 12) (ls' := [aR W, aI x1, aI x2, aI (s (94 + x2)), aU, aU]) i37_11 (bt rfl) rfl rfl <| ok_aloadn (pc' := 13) i37_12 rfl rfl <| ok_getfr (r := P) (pc' := 16) i37_13 o37 gr8_9 (ShWorks_k0 hSW) (ShWorks_r0 hSW) rfl <| ok_getfr (r := (P + 3)) (pc' := 19) i37_16 o37 gr8_40 (ShPlan_k0 hSP) (ShPlan_r4 hSP) rfl <| ok_iloadn (pc' := 20) i37_19 rfl rfl <| ?_
  have z2 : 1 ≤ q (10 + x1) ∧ q (10 + x1) ≤ 6 := Q_10 hQ (i := x1) (by omega) (by omega)
  refine ok_iaload (v := (q (10 + x1))) (pc' := 21) i37_20 (ShPlan_k3 hSP) (by decide) (ShPlan_l3 hSP) (by omega) (RepP_3 hRP (by omega) (by omega)) rfl <| ok_istore (pc' := 23) (ls' := [aR W, aI x1, aI x2, aI (s (94 + x2)), aI (q (10 + x1)), aU]) i37_21 (bt rfl) rfl rfl <| ok_iconst (pc' := 24) i37_23 rfl <| ok_istore (pc' := 26) (ls' := [aR W, aI x1, aI x2, aI (s (94 + x2)), aI (q (10 + x1)), aI 0]) i37_24 (bt rfl) rfl rfl <| ?_
  refine ok_forx (lo := 0) (n := (q (10 + x1)).toNat) (f := (f37 q s x1)) (a0 := (s (94 + x2))) (fun x5 x3 ls M9 => M9 = M ∧ (-1 ≤ x3 ∧ x3 ≤ 200 ∧ x5 ≤ (q (10 + x1))) ∧ ls = [aR W, aI x1, aI x2, aI x3, aI (q (10 + x1)), aI x5]) ?_ ?_ _ _ ⟨rfl, by omega, rfl⟩
  · rintro x5 x3 ls M9 g1 g2 ⟨hM, hinv, rfl⟩ hr ih
    rw [hM]
    have g3 : x5 < (q (10 + x1)) := by omega
    refine ok_iload (pc' := 28) i37_26 rfl rfl <| ok_iload (pc' := 30) i37_28 rfl rfl <| ?_
    refine ok_cge (pc1 := 62) (pc2 := 33) i37_30 (by omega) rfl rfl (fun h9 => by exfalso; omega) (fun h1 => ?_)
    refine ok_iloadn (pc' := 34) i37_33 rfl rfl <| ok_iconst (pc' := 35) i37_34 rfl <| ?_
    refine ok_ceq (pc1 := 62) (pc2 := 38) i37_35 (by omega) rfl rfl (fun h2 => ?_) (fun h2 => ?_)
    · refine ok_iloadn (pc' := 63) i37_62 rfl rfl <| ok_ireti i37_63 rt37 <| ?_
      have e : f37 q s x1 x5 x3 = .inr x3 := by unfold f37; rw [if_pos h2]
      have e2 : (r37 q s x1 x2) = x3 := by unfold r37; rw [hr _ e]; rfl
      exact ⟨by rw [e2], rfl, rfl, by rw [e2]; omega⟩
    · refine ok_aloadn (pc' := 39) i37_38 rfl rfl <| ok_iloadn (pc' := 40) i37_39 rfl rfl <| ok_aloadn (pc' := 41) i37_40 rfl rfl <| ok_getfr (r := P) (pc' := 44) i37_41 o37 gr8_9 (ShWorks_k0 hSW) (ShWorks_r0 hSW) rfl <| ok_getfr (r := (P + 4)) (pc' := 47) i37_44 o37 gr8_43 (ShPlan_k0 hSP) (ShPlan_r5 hSP) rfl <| ok_iloadn (pc' := 48) i37_47 rfl rfl <| ok_aaload (r := (P + 5 + x1.toNat)) (pc' := 49) i37_48 (ShPlan_k4 hSP) (by decide) (ShPlan_l4 hSP) (by omega) (ShPlan_ev4 hSP (by omega) (by omega)) rfl <| ok_iload (pc' := 51) i37_49 rfl rfl <| ?_
      have z47 : 1 ≤ q (16 + ((6 * x1) + x5)) ∧ q (16 + ((6 * x1) + x5)) ≤ 200 := Q_16 hQ (w := x1) (i := x5) (by omega) (by omega) (by omega) (by omega)
      refine ok_iaload (v := (q (16 + ((6 * x1) + x5)))) (pc' := 52) i37_51 (ShPlan_kv4 hSP (by omega) (by omega)) (by decide) (ShPlan_lv4 hSP (by omega) (by omega)) (by omega) (RepP_pv hRP (by omega) (by omega) (by omega) (by omega) (by omega)) rfl <| ok_cc i37_52 rfl (cl_v o37 m8_46 na33 rfl rfl (bt rfl) (bt rfl) rfl (by rw [ShWorks_k0 hSW, o33])) ln33 (pd33 (aR W) (aI x3) (aI (q (16 + ((6 * x1) + x5))))) <| ok_iloadn (pc' := 1) i33_0 rfl rfl <| ok_iloadn (pc' := 2) i33_1 rfl rfl <| ?_
      refine ok_cle (pc1 := 9) (pc2 := 5) i33_2 (by omega) rfl rfl (fun h3 => ?_) (fun h3 => ?_)
      · refine ok_iconst (pc' := 10) i33_9 rfl <| ok_iloadn (pc' := 11) i33_10 rfl rfl <| ok_iloadn (pc' := 12) i33_11 rfl rfl <| ok_isub (v := (x3 - (q (16 + ((6 * x1) + x5))))) (pc' := 13) i33_12 rfl rfl <| ok_aloadn (pc' := 14) i33_13 rfl rfl <| ok_getfr (r := B) (pc' := 17) i33_14 o33 gr8_15 (ShWorks_k0 hSW) (ShWorks_r1 hSW) rfl <| ok_getfr (r := (B + 1)) (pc' := 20) i33_17 o33 gr8_31 (ShState_k0 hSB) (ShState_r1 hSB) rfl <| ok_iconst (pc' := 21) i33_20 rfl <| ?_
        have z48 : 0 ≤ s 1 ∧ s 1 ≤ 9 := V_1 hV
        refine ok_iaload (v := (s 1)) (pc' := 22) i33_21 (ShState_k1 hSB) (by decide) (ShState_l1 hSB) (by decide) (RepS_1_0 hRB) rfl <| ok_isub (v := ((x3 - (q (16 + ((6 * x1) + x5)))) - (s 1))) (pc' := 23) i33_22 rfl rfl <| ok_max (v := (max 0 ((x3 - (q (16 + ((6 * x1) + x5)))) - (s 1)))) (pc' := 26) i33_23 o33 m8_34 (by omega) (bt rfl) rfl rfl <| ?_
        have z49 : 0 ≤ (max 0 ((x3 - (q (16 + ((6 * x1) + x5)))) - (s 1))) ∧ ((x3 - (q (16 + ((6 * x1) + x5)))) - (s 1)) ≤ (max 0 ((x3 - (q (16 + ((6 * x1) + x5)))) - (s 1))) := by omega
        have z50 : (max 0 ((x3 - (q (16 + ((6 * x1) + x5)))) - (s 1))) ≤ 200 := by omega
        refine ok_ireti i33_26 rt33 <| kt_v (pc' := 55) rfl <| ok_istoren (pc' := 56) (ls' := [aR W, aI x1, aI x2, aI (max 0 ((x3 - (q (16 + ((6 * x1) + x5)))) - (s 1))), aI (q (10 + x1)), aI x5]) i37_55 (bt rfl) rfl rfl <| ok_iinc (pc' := 59) (v := (x5 + 1)) (ls' := [aR W, aI x1, aI x2, aI (max 0 ((x3 - (q (16 + ((6 * x1) + x5)))) - (s 1))), aI (q (10 + x1)), aI (x5 + 1)]) i37_56 rfl rfl rfl rfl <| ok_goto (pc' := 26) i37_59 rfl <| ?_
        have e : f37 q s x1 x5 x3 = .inl (max 0 ((x3 - (q (16 + ((6 * x1) + x5)))) - (s 1))) := by unfold f37; rw [if_neg (by omega), if_pos h3]
        exact ih _ _ _ e ⟨rfl, by omega, rfl⟩
      · refine ok_iconst (pc' := 6) i33_5 rfl <| ok_goto (pc' := 26) i33_6 rfl <| ok_ireti i33_26 rt33 <| kt_v (pc' := 55) rfl <| ok_istoren (pc' := 56) (ls' := [aR W, aI x1, aI x2, aI (-1), aI (q (10 + x1)), aI x5]) i37_55 (bt rfl) rfl rfl <| ok_iinc (pc' := 59) (v := (x5 + 1)) (ls' := [aR W, aI x1, aI x2, aI (-1), aI (q (10 + x1)), aI (x5 + 1)]) i37_56 rfl rfl rfl rfl <| ok_goto (pc' := 26) i37_59 rfl <| ?_
        have e : f37 q s x1 x5 x3 = .inl (-1) := by unfold f37; rw [if_neg (by omega), if_neg (by omega)]
        exact ih _ _ _ e ⟨rfl, by omega, rfl⟩
  · rintro x5 x3 ls M9 g1 g2 ⟨hM, hinv, rfl⟩
    rw [hM]
    have g3 : x5 = (q (10 + x1)) := by omega
    refine ok_iload (pc' := 28) i37_26 rfl rfl <| ok_iload (pc' := 30) i37_28 rfl rfl <| ?_
    refine ok_cge (pc1 := 62) (pc2 := 33) i37_30 (by omega) rfl rfl (fun h1 => ?_) (fun h9 => by exfalso; omega)
    refine ok_iloadn (pc' := 63) i37_62 rfl rfl <| ok_ireti i37_63 rt37 <| ?_
    have e2 : (r37 q s x1 x2) = x3 := by unfold r37; rw [g2]; unfold itr; dsimp only; unfold k37; rfl
    exact ⟨by rw [e2], rfl, rfl, by rw [e2]; omega⟩
theorem x37 {g : AG} {M : AM} {W P B : Nat} {q s : Int → Int} {b : Int} {x1 x2 : Int} (hSW : ShWorks g W P B) (hSP : ShPlan g P) (hSB : ShState g B) (hRP : RepP M P q) (hRB : RepS M B s) (hQ : ValQ q) (hV : Val b q s) (h1 : 0 ≤ x1 ∧ x1 < q 1) (h2 : 0 ≤ x2 ∧ x2 < s 3) : -1 ≤ (r37 q s x1 x2) ∧ (r37 q s x1 x2) ≤ 200 := by
  obtain ⟨_, _, _, _, _, _, _, _, h⟩ := u37 (x1 := x1) (x2 := x2) hSW hSP hSB hRP hRB hQ hV h1 h2
  exact h
theorem t37 {g : AG} {M : AM} {W P B : Nat} {q s : Int → Int} {b : Int} {x1 x2 : Int} (hSW : ShWorks g W P B) (hSP : ShPlan g P) (hSB : ShState g B) (hRP : RepP M P q) (hRB : RepS M B s) (hQ : ValQ q) (hV : Val b q s) (h1 : 0 ≤ x1 ∧ x1 < q 1) (h2 : 0 ≤ x2 ∧ x2 < s 3) :
    Ok 1 37 0 [aR W, aI x1, aI x2, aU, aU, aU] [] g M (Rt (some (aI (r37 q s x1 x2))) g (fun M9 => M9 = M)) := (u37 hSW hSP hSB hRP hRB hQ hV h1 h2).mono (fun o g1 M1 h => ⟨h.1, h.2.1, h.2.2.1⟩)
def f38 (q s : Int → Int) (x1 : Int) (x3 x2 : Int) : Int := (if (r37 q s x1 x3) = (-1) then x2 else (if x2 = (-1) then x3 else (if (s (94 + x2)) ≤ (s (94 + x3)) then x2 else x3)))
def k38 (x2 : Int) : Int := x2
def r38 (q s : Int → Int) (x1 : Int) : Int := k38 (itv (f38 q s x1) (-1) 0 ((s 3).toNat))
theorem u38 {g : AG} {M : AM} {W P B : Nat} {q s : Int → Int} {b : Int} {x1 : Int} (hSW : ShWorks g W P B) (hSP : ShPlan g P) (hSB : ShState g B) (hRP : RepP M P q) (hRB : RepS M B s) (hQ : ValQ q) (hV : Val b q s) (h1 : 0 ≤ x1 ∧ x1 < q 1) :
    Ok 2 38 0 [aR W, aI x1, aU, aU] [] g M (Rt (some (aI (r38 q s x1))) g (fun M9 => M9 = M ∧ (-1 ≤ (r38 q s x1) ∧ (r38 q s x1) < s 3 ∧ (r38 q s x1) < 80))) := by
  have yq0 : 0 ≤ q 0 ∧ q 0 ≤ 4 := Q_0 hQ
  have yq1 : 0 ≤ q 1 ∧ q 1 ≤ 6 := Q_1 hQ
  have ys3 : 0 ≤ s 3 ∧ s 3 ≤ 80 := V_3 hV
  have ys4 : 0 ≤ s 4 ∧ s 4 ≤ 16 := V_4 hV
  have t1 : 1 ≤ q (10 + x1) ∧ q (10 + x1) ≤ 6 := Q_10 hQ (by omega) (by omega)
  refine ok_iconst (pc' := 1) i38_0 rfl <| ok_istoren (pc' := 2) (ls' := [aR W, aI x1, aI (-1), aU]) i38_1 (bt rfl) rfl rfl <| ok_iconst (pc' := 3) i38_2 rfl <| ok_istoren (pc' := 4) (ls' := [aR W, aI x1, aI (-1), aI 0]) i38_3 (bt rfl) rfl rfl <| ?_
  refine ok_for (lo := 0) (n := (s 3).toNat) (f := (f38 q s x1)) (a0 := (-1)) (fun x3 x2 ls M9 => M9 = M ∧ (-1 ≤ x2 ∧ x2 < x3 ∧ x3 ≤ s 3) ∧ ls = [aR W, aI x1, aI x2, aI x3]) ?_ ?_ _ _ ⟨rfl, by omega, rfl⟩
  · rintro x3 x2 ls M9 g1 g2 ⟨hM, hinv, rfl⟩ ih
    rw [hM]
    have g3 : x3 < (s 3) := by omega
    refine ok_iloadn (pc' := 5) i38_4 rfl rfl <| ok_aloadn (pc' := 6) i38_5 rfl rfl <| ok_getfr (r := B) (pc' := 9) i38_6 o38 gr8_15 (ShWorks_k0 hSW) (ShWorks_r1 hSW) rfl <| ok_getfi (v := (s 3)) (pc' := 12) i38_9 o38 gi8_49 (ShState_k0 hSB) (RepS_f2 hRB) rfl <| ?_
    refine ok_cge (pc1 := 63) (pc2 := 15) i38_12 (by omega) rfl rfl (fun h9 => by exfalso; omega) (fun h1 => ?_)
    refine ok_aloadn (pc' := 16) i38_15 rfl rfl <| ok_iloadn (pc' := 17) i38_16 rfl rfl <| ok_iloadn (pc' := 18) i38_17 rfl rfl <| ok_cp (pc' := 21) (d0 := 1) i38_18 rfl (cl_v o38 m8_57 na37 rfl rfl (bt rfl) (bt rfl) rfl (by rw [ShWorks_k0 hSW, o37])) ln37 (pd37 (aR W) (aI x1) (aI x3)) (by decide) (t37 (x1 := x1) (x2 := x3) hSW hSP hSB hRP hRB hQ hV (by omega) (by omega)) rfl <| ?_
    have z45 : -1 ≤ (r37 q s x1 x3) ∧ (r37 q s x1 x3) ≤ 200 := x37 (x1 := x1) (x2 := x3) hSW hSP hSB hRP hRB hQ hV (by omega) (by omega)
    refine ok_iconst (pc' := 22) i38_21 rfl <| ?_
    refine ok_ceq (pc1 := 57) (pc2 := 25) i38_22 (by omega) rfl rfl (fun h2 => ?_) (fun h2 => ?_)
    · refine ok_iinc (pc' := 60) (v := (x3 + 1)) (ls' := [aR W, aI x1, aI x2, aI (x3 + 1)]) i38_57 rfl rfl rfl rfl <| ok_goto (pc' := 4) i38_60 rfl <| ?_
      have e : f38 q s x1 x3 x2 = x2 := by unfold f38; rw [if_pos h2]
      exact ih _ _ ⟨rfl, by first | omega | (rw [e]; omega), by rw [e]⟩
    · refine ok_iloadn (pc' := 26) i38_25 rfl rfl <| ok_iconst (pc' := 27) i38_26 rfl <| ?_
      refine ok_ceq (pc1 := 55) (pc2 := 30) i38_27 (by omega) rfl rfl (fun h3 => ?_) (fun h3 => ?_)
      · refine ok_iloadn (pc' := 56) i38_55 rfl rfl <| ok_istoren (pc' := 57) (ls' := [aR W, aI x1, aI x3, aI x3]) i38_56 (bt rfl) rfl rfl <| ok_iinc (pc' := 60) (v := (x3 + 1)) (ls' := [aR W, aI x1, aI x3, aI (x3 + 1)]) i38_57 rfl rfl rfl rfl <| ok_goto (pc' := 4) i38_60 rfl <| ?_
        have e : f38 q s x1 x3 x2 = x3 := by unfold f38; rw [if_neg (by omega), if_pos h3]
        exact ih _ _ ⟨rfl, by first | omega | (rw [e]; omega), by rw [e]⟩
      · refine ok_aloadn (pc' := 31) i38_30 rfl rfl <| ok_getfr (r := B) (pc' := 34) i38_31 o38 gr8_15 (ShWorks_k0 hSW) (ShWorks_r1 hSW) rfl <| ok_getfr (r := (B + 2)) (pc' := 37) i38_34 o38 gr8_25 (ShState_k0 hSB) (ShState_r3 hSB) rfl <| ok_iconst (pc' := 38) i38_37 rfl <| ok_aaload (r := (B + 4)) (pc' := 39) i38_38 (ShState_k2 hSB) (by decide) (ShState_l2 hSB) (by decide) (ShState_e2_1 hSB) rfl <| ok_iloadn (pc' := 40) i38_39 rfl rfl <| ?_
        have z46 : 0 ≤ s (94 + x3) ∧ s (94 + x3) ≤ 200 := V_d1 hV (i := x3) (by omega) (by omega)
        refine ok_iaload (v := (s (94 + x3))) (pc' := 41) i38_40 (ShState_k4 hSB) (by decide) (ShState_l4 hSB) (by omega) (RepS_4 hRB (by omega) (by omega)) rfl <| ok_aloadn (pc' := 42) i38_41 rfl rfl <| ok_getfr (r := B) (pc' := 45) i38_42 o38 gr8_15 (ShWorks_k0 hSW) (ShWorks_r1 hSW) rfl <| ok_getfr (r := (B + 2)) (pc' := 48) i38_45 o38 gr8_25 (ShState_k0 hSB) (ShState_r3 hSB) rfl <| ok_iconst (pc' := 49) i38_48 rfl <| ok_aaload (r := (B + 4)) (pc' := 50) i38_49 (ShState_k2 hSB) (by decide) (ShState_l2 hSB) (by decide) (ShState_e2_1 hSB) rfl <| ok_iloadn (pc' := 51) i38_50 rfl rfl <| ?_
        have z47 : 0 ≤ s (94 + x2) ∧ s (94 + x2) ≤ 200 := V_d1 hV (i := x2) (by omega) (by omega)
        refine ok_iaload (v := (s (94 + x2))) (pc' := 52) i38_51 (ShState_k4 hSB) (by decide) (ShState_l4 hSB) (by omega) (RepS_4 hRB (by omega) (by omega)) rfl <| ?_
        refine ok_cge (pc1 := 57) (pc2 := 55) i38_52 (by omega) rfl rfl (fun h4 => ?_) (fun h4 => ?_)
        · refine ok_iinc (pc' := 60) (v := (x3 + 1)) (ls' := [aR W, aI x1, aI x2, aI (x3 + 1)]) i38_57 rfl rfl rfl rfl <| ok_goto (pc' := 4) i38_60 rfl <| ?_
          have e : f38 q s x1 x3 x2 = x2 := by unfold f38; rw [if_neg (by omega), if_neg (by omega), if_pos h4]
          exact ih _ _ ⟨rfl, by first | omega | (rw [e]; omega), by rw [e]⟩
        · refine ok_iloadn (pc' := 56) i38_55 rfl rfl <| ok_istoren (pc' := 57) (ls' := [aR W, aI x1, aI x3, aI x3]) i38_56 (bt rfl) rfl rfl <| ok_iinc (pc' := 60) (v := (x3 + 1)) (ls' := [aR W, aI x1, aI x3, aI (x3 + 1)]) i38_57 rfl rfl rfl rfl <| ok_goto (pc' := 4) i38_60 rfl <| ?_
          have e : f38 q s x1 x3 x2 = x3 := by unfold f38; rw [if_neg (by omega), if_neg (by omega), if_neg (by omega)]
          exact ih _ _ ⟨rfl, by first | omega | (rw [e]; omega), by rw [e]⟩
  · rintro x3 x2 ls M9 g1 g2 ⟨hM, hinv, rfl⟩
    rw [hM]
    have g3 : x3 = (s 3) := by omega
    refine ok_iloadn (pc' := 5) i38_4 rfl rfl <| ok_aloadn (pc' := 6) i38_5 rfl rfl <| ok_getfr (r := B) (pc' := 9) i38_6 o38 gr8_15 (ShWorks_k0 hSW) (ShWorks_r1 hSW) rfl <| ok_getfi (v := (s 3)) (pc' := 12) i38_9 o38 gi8_49 (ShState_k0 hSB) (RepS_f2 hRB) rfl <| ?_
    refine ok_cge (pc1 := 63) (pc2 := 15) i38_12 (by omega) rfl rfl (fun h1 => ?_) (fun h9 => by exfalso; omega)
    refine ok_iloadn (pc' := 64) i38_63 rfl rfl <| ok_ireti i38_64 rt38 <| ?_
    have e2 : (r38 q s x1) = x2 := by unfold r38; rw [g2]; unfold k38; rfl
    exact ⟨by rw [e2], rfl, rfl, by rw [e2]; omega⟩
theorem x38 {g : AG} {M : AM} {W P B : Nat} {q s : Int → Int} {b : Int} {x1 : Int} (hSW : ShWorks g W P B) (hSP : ShPlan g P) (hSB : ShState g B) (hRP : RepP M P q) (hRB : RepS M B s) (hQ : ValQ q) (hV : Val b q s) (h1 : 0 ≤ x1 ∧ x1 < q 1) : -1 ≤ (r38 q s x1) ∧ (r38 q s x1) < s 3 ∧ (r38 q s x1) < 80 := by
  obtain ⟨_, _, _, _, _, _, _, _, h⟩ := u38 (x1 := x1) hSW hSP hSB hRP hRB hQ hV h1
  exact h
theorem t38 {g : AG} {M : AM} {W P B : Nat} {q s : Int → Int} {b : Int} {x1 : Int} (hSW : ShWorks g W P B) (hSP : ShPlan g P) (hSB : ShState g B) (hRP : RepP M P q) (hRB : RepS M B s) (hQ : ValQ q) (hV : Val b q s) (h1 : 0 ≤ x1 ∧ x1 < q 1) :
    Ok 2 38 0 [aR W, aI x1, aU, aU] [] g M (Rt (some (aI (r38 q s x1))) g (fun M9 => M9 = M)) := (u38 hSW hSP hSB hRP hRB hQ hV h1).mono (fun o g1 M1 h => ⟨h.1, h.2.1, h.2.2.1⟩)
def f40 (q : Int → Int) (x1 x2 : Int) (x5 x4 : Int) : Int := (if (q (16 + ((6 * x1) + x5))) ≠ x2 then x4 else (x4 + 1))
def k40 (x4 : Int) : Int := x4
def r40 (q : Int → Int) (x1 x2 : Int) : Int := k40 (itv (f40 q x1 x2) 0 0 ((q (10 + x1)).toNat))
theorem u40 {g : AG} {M : AM} {W P B : Nat} {q s : Int → Int} {b : Int} {x1 x2 : Int} (hSW : ShWorks g W P B) (hSP : ShPlan g P) (hSB : ShState g B) (hRP : RepP M P q) (hRB : RepS M B s) (hQ : ValQ q) (hV : Val b q s) (h1 : 0 ≤ x1 ∧ x1 < q 1) (h2 : -2147483648 ≤ x2 ∧ x2 < 2147483648) :
    Ok 0 40 0 [aR W, aI x1, aI x2, aU, aU, aU] [] g M (Rt (some (aI (r40 q x1 x2))) g (fun M9 => M9 = M ∧ (0 ≤ (r40 q x1 x2) ∧ (r40 q x1 x2) ≤ 6))) := by
  have yq0 : 0 ≤ q 0 ∧ q 0 ≤ 4 := Q_0 hQ
  have yq1 : 0 ≤ q 1 ∧ q 1 ≤ 6 := Q_1 hQ
  have ys3 : 0 ≤ s 3 ∧ s 3 ≤ 80 := V_3 hV
  have ys4 : 0 ≤ s 4 ∧ s 4 ≤ 16 := V_4 hV
  have t1 : 1 ≤ q (10 + x1) ∧ q (10 + x1) ≤ 6 := Q_10 hQ (by omega) (by omega)
  refine ok_aloadn (pc' := 1) i40_0 rfl rfl <| ok_getfr (r := P) (pc' := 4) i40_1 o40 gr8_9 (ShWorks_k0 hSW) (ShWorks_r0 hSW) rfl <| ok_getfr (r := (P + 3)) (pc' := 7) i40_4 o40 gr8_40 (ShPlan_k0 hSP) (ShPlan_r4 hSP) rfl <| ok_iloadn (pc' := 8) i40_7 rfl rfl <| ?_
  have z1 : 1 ≤ q (10 + x1) ∧ q (10 + x1) ≤ 6 := Q_10 hQ (i := x1) (by omega) (by omega)
  refine ok_iaload (v := (q (10 + x1))) (pc' := 9) i40_8 (ShPlan_k3 hSP) (by decide) (ShPlan_l3 hSP) (by omega) (RepP_3 hRP (by omega) (by omega)) rfl <| ok_istoren (pc' := 10) (ls' := [aR W, aI x1, aI x2, aI (q (10 + x1)), aU, aU]) i40_9 (bt rfl) rfl rfl <| ok_iconst (pc' := 11) i40_10 rfl <| ok_istore (pc' := 13) (ls' := [aR W, aI x1, aI x2, aI (q (10 + x1)), aI 0, aU]) i40_11 (bt rfl) rfl rfl <| ok_iconst (pc' := 14) i40_13 rfl <| ok_istore (pc' := 16) (ls' := [aR W, aI x1, aI x2, aI (q (10 + x1)), aI 0, aI 0]) i40_14 (bt rfl) rfl rfl <| ?_
  refine ok_for (lo := 0) (n := (q (10 + x1)).toNat) (f := (f40 q x1 x2)) (a0 := 0) (fun x5 x4 ls M9 => M9 = M ∧ (0 ≤ x4 ∧ x4 ≤ x5 ∧ x5 ≤ (q (10 + x1))) ∧ ls = [aR W, aI x1, aI x2, aI (q (10 + x1)), aI x4, aI x5]) ?_ ?_ _ _ ⟨rfl, by omega, rfl⟩
  · rintro x5 x4 ls M9 g1 g2 ⟨hM, hinv, rfl⟩ ih
    rw [hM]
    have g3 : x5 < (q (10 + x1)) := by omega
    refine ok_iload (pc' := 18) i40_16 rfl rfl <| ok_iloadn (pc' := 19) i40_18 rfl rfl <| ?_
    refine ok_cge (pc1 := 47) (pc2 := 22) i40_19 (by omega) rfl rfl (fun h9 => by exfalso; omega) (fun h1 => ?_)
    refine ok_aloadn (pc' := 23) i40_22 rfl rfl <| ok_getfr (r := P) (pc' := 26) i40_23 o40 gr8_9 (ShWorks_k0 hSW) (ShWorks_r0 hSW) rfl <| ok_getfr (r := (P + 4)) (pc' := 29) i40_26 o40 gr8_43 (ShPlan_k0 hSP) (ShPlan_r5 hSP) rfl <| ok_iloadn (pc' := 30) i40_29 rfl rfl <| ok_aaload (r := (P + 5 + x1.toNat)) (pc' := 31) i40_30 (ShPlan_k4 hSP) (by decide) (ShPlan_l4 hSP) (by omega) (ShPlan_ev4 hSP (by omega) (by omega)) rfl <| ok_iload (pc' := 33) i40_31 rfl rfl <| ?_
    have z46 : 1 ≤ q (16 + ((6 * x1) + x5)) ∧ q (16 + ((6 * x1) + x5)) ≤ 200 := Q_16 hQ (w := x1) (i := x5) (by omega) (by omega) (by omega) (by omega)
    refine ok_iaload (v := (q (16 + ((6 * x1) + x5)))) (pc' := 34) i40_33 (ShPlan_kv4 hSP (by omega) (by omega)) (by decide) (ShPlan_lv4 hSP (by omega) (by omega)) (by omega) (RepP_pv hRP (by omega) (by omega) (by omega) (by omega) (by omega)) rfl <| ok_iloadn (pc' := 35) i40_34 rfl rfl <| ?_
    refine ok_cne (pc1 := 41) (pc2 := 38) i40_35 (by omega) rfl rfl (fun h2 => ?_) (fun h2 => ?_)
    · refine ok_iinc (pc' := 44) (v := (x5 + 1)) (ls' := [aR W, aI x1, aI x2, aI (q (10 + x1)), aI x4, aI (x5 + 1)]) i40_41 rfl rfl rfl rfl <| ok_goto (pc' := 16) i40_44 rfl <| ?_
      have e : f40 q x1 x2 x5 x4 = x4 := by unfold f40; rw [if_pos h2]
      exact ih _ _ ⟨rfl, by first | omega | (rw [e]; omega), by rw [e]⟩
    · refine ok_iinc (pc' := 41) (v := (x4 + 1)) (ls' := [aR W, aI x1, aI x2, aI (q (10 + x1)), aI (x4 + 1), aI x5]) i40_38 rfl rfl rfl rfl <| ok_iinc (pc' := 44) (v := (x5 + 1)) (ls' := [aR W, aI x1, aI x2, aI (q (10 + x1)), aI (x4 + 1), aI (x5 + 1)]) i40_41 rfl rfl rfl rfl <| ok_goto (pc' := 16) i40_44 rfl <| ?_
      have e : f40 q x1 x2 x5 x4 = (x4 + 1) := by unfold f40; rw [if_neg (by omega)]
      exact ih _ _ ⟨rfl, by first | omega | (rw [e]; omega), by rw [e]⟩
  · rintro x5 x4 ls M9 g1 g2 ⟨hM, hinv, rfl⟩
    rw [hM]
    have g3 : x5 = (q (10 + x1)) := by omega
    refine ok_iload (pc' := 18) i40_16 rfl rfl <| ok_iloadn (pc' := 19) i40_18 rfl rfl <| ?_
    refine ok_cge (pc1 := 47) (pc2 := 22) i40_19 (by omega) rfl rfl (fun h1 => ?_) (fun h9 => by exfalso; omega)
    refine ok_iload (pc' := 49) i40_47 rfl rfl <| ok_ireti i40_49 rt40 <| ?_
    have e2 : (r40 q x1 x2) = x4 := by unfold r40; rw [g2]; unfold k40; rfl
    exact ⟨by rw [e2], rfl, rfl, by rw [e2]; omega⟩
theorem x40 {g : AG} {M : AM} {W P B : Nat} {q s : Int → Int} {b : Int} {x1 x2 : Int} (hSW : ShWorks g W P B) (hSP : ShPlan g P) (hSB : ShState g B) (hRP : RepP M P q) (hRB : RepS M B s) (hQ : ValQ q) (hV : Val b q s) (h1 : 0 ≤ x1 ∧ x1 < q 1) (h2 : -2147483648 ≤ x2 ∧ x2 < 2147483648) : 0 ≤ (r40 q x1 x2) ∧ (r40 q x1 x2) ≤ 6 := by
  obtain ⟨_, _, _, _, _, _, _, _, h⟩ := u40 (x1 := x1) (x2 := x2) hSW hSP hSB hRP hRB hQ hV h1 h2
  exact h
theorem t40 {g : AG} {M : AM} {W P B : Nat} {q s : Int → Int} {b : Int} {x1 x2 : Int} (hSW : ShWorks g W P B) (hSP : ShPlan g P) (hSB : ShState g B) (hRP : RepP M P q) (hRB : RepS M B s) (hQ : ValQ q) (hV : Val b q s) (h1 : 0 ≤ x1 ∧ x1 < q 1) (h2 : -2147483648 ≤ x2 ∧ x2 < 2147483648) :
    Ok 0 40 0 [aR W, aI x1, aI x2, aU, aU, aU] [] g M (Rt (some (aI (r40 q x1 x2))) g (fun M9 => M9 = M)) := (u40 hSW hSP hSB hRP hRB hQ hV h1 h2).mono (fun o g1 M1 h => ⟨h.1, h.2.1, h.2.2.1⟩)
def f39 (q s : Int → Int) (x1 : Int) (x3 a9 : Int) : Int ⊕ Int := (if (r40 q x1 (q (16 + ((6 * x1) + x3)))) ≤ (r22 s (q (16 + ((6 * x1) + x3)))) then (.inl a9) else (.inr 0))
def k39 (a9 : Int) : Int := 1
def r39 (q s : Int → Int) (x1 : Int) : Int := itr (itx (f39 q s x1) 0 0 ((q (10 + x1)).toNat)) (k39)
theorem u39 {g : AG} {M : AM} {W P B : Nat} {q s : Int → Int} {b : Int} {x1 : Int} (hSW : ShWorks g W P B) (hSP : ShPlan g P) (hSB : ShState g B) (hRP : RepP M P q) (hRB : RepS M B s) (hQ : ValQ q) (hV : Val b q s) (h1 : 0 ≤ x1 ∧ x1 < q 1) :
    Ok 1 39 0 [aR W, aI x1, aU, aU, aU] [] g M (Rt (some (aI (r39 q s x1))) g (fun M9 => M9 = M ∧ (0 ≤ (r39 q s x1) ∧ (r39 q s x1) ≤ 1))) := by
  have yq0 : 0 ≤ q 0 ∧ q 0 ≤ 4 := Q_0 hQ
  have yq1 : 0 ≤ q 1 ∧ q 1 ≤ 6 := Q_1 hQ
  have ys3 : 0 ≤ s 3 ∧ s 3 ≤ 80 := V_3 hV
  have ys4 : 0 ≤ s 4 ∧ s 4 ≤ 16 := V_4 hV
  have t1 : 1 ≤ q (10 + x1) ∧ q (10 + x1) ≤ 6 := Q_10 hQ (by omega) (by omega)
  refine ok_aloadn (pc' := 1) i39_0 rfl rfl <| ok_getfr (r := P) (pc' := 4) i39_1 o39 gr8_9 (ShWorks_k0 hSW) (ShWorks_r0 hSW) rfl <| ok_getfr (r := (P + 3)) (pc' := 7) i39_4 o39 gr8_40 (ShPlan_k0 hSP) (ShPlan_r4 hSP) rfl <| ok_iloadn (pc' := 8) i39_7 rfl rfl <| ?_
  have z1 : 1 ≤ q (10 + x1) ∧ q (10 + x1) ≤ 6 := Q_10 hQ (i := x1) (by omega) (by omega)
  refine ok_iaload (v := (q (10 + x1))) (pc' := 9) i39_8 (ShPlan_k3 hSP) (by decide) (ShPlan_l3 hSP) (by omega) (RepP_3 hRP (by omega) (by omega)) rfl <| ok_istoren (pc' := 10) (ls' := [aR W, aI x1, aI (q (10 + x1)), aU, aU]) i39_9 (bt rfl) rfl rfl <| ok_iconst (pc' := 11) i39_10 rfl <| ok_istoren (pc' := 12) (ls' := [aR W, aI x1, aI (q (10 + x1)), aI 0, aU]) i39_11 (bt rfl) rfl rfl <| ?_
  refine ok_forx (lo := 0) (n := (q (10 + x1)).toNat) (f := (f39 q s x1)) (a0 := 0) (fun x3 a9 ls M9 => M9 = M ∧ (x3 ≤ (q (10 + x1))) ∧ ∃ w4 : AV, am_cat w4 = 1 ∧ ls = [aR W, aI x1, aI (q (10 + x1)), aI x3, w4]) ?_ ?_ _ _ ⟨rfl, by omega, aU, rfl, rfl⟩
  · rintro x3 a9 ls M9 g1 g2 ⟨hM, hinv, w4, hw4, rfl⟩ hr ih
    rw [hM]
    have g3 : x3 < (q (10 + x1)) := by omega
    refine ok_iloadn (pc' := 13) i39_12 rfl rfl <| ok_iloadn (pc' := 14) i39_13 rfl rfl <| ?_
    refine ok_cge (pc1 := 57) (pc2 := 17) i39_14 (by omega) rfl rfl (fun h9 => by exfalso; omega) (fun h1 => ?_)
    refine ok_aloadn (pc' := 18) i39_17 rfl rfl <| ok_getfr (r := P) (pc' := 21) i39_18 o39 gr8_9 (ShWorks_k0 hSW) (ShWorks_r0 hSW) rfl <| ok_getfr (r := (P + 4)) (pc' := 24) i39_21 o39 gr8_43 (ShPlan_k0 hSP) (ShPlan_r5 hSP) rfl <| ok_iloadn (pc' := 25) i39_24 rfl rfl <| ok_aaload (r := (P + 5 + x1.toNat)) (pc' := 26) i39_25 (ShPlan_k4 hSP) (by decide) (ShPlan_l4 hSP) (by omega) (ShPlan_ev4 hSP (by omega) (by omega)) rfl <| ok_iloadn (pc' := 27) i39_26 rfl rfl <| ?_
    have z46 : 1 ≤ q (16 + ((6 * x1) + x3)) ∧ q (16 + ((6 * x1) + x3)) ≤ 200 := Q_16 hQ (w := x1) (i := x3) (by omega) (by omega) (by omega) (by omega)
    refine ok_iaload (v := (q (16 + ((6 * x1) + x3)))) (pc' := 28) i39_27 (ShPlan_kv4 hSP (by omega) (by omega)) (by decide) (ShPlan_lv4 hSP (by omega) (by omega)) (by omega) (RepP_pv hRP (by omega) (by omega) (by omega) (by omega) (by omega)) rfl <| ok_istore (pc' := 30) (ls' := [aR W, aI x1, aI (q (10 + x1)), aI x3, aI (q (16 + ((6 * x1) + x3)))]) i39_28 (bt rfl) rfl rfl <| ok_aloadn (pc' := 31) i39_30 rfl rfl <| ok_iloadn (pc' := 32) i39_31 rfl rfl <| ok_iload (pc' := 34) i39_32 rfl rfl <| ok_cp (pc' := 37) (d0 := 0) i39_34 rfl (cl_v o39 m8_60 na40 rfl rfl (bt rfl) (bt rfl) rfl (by rw [ShWorks_k0 hSW, o40])) ln40 (pd40 (aR W) (aI x1) (aI (q (16 + ((6 * x1) + x3))))) (by decide) (t40 (x1 := x1) (x2 := (q (16 + ((6 * x1) + x3)))) hSW hSP hSB hRP hRB hQ hV (by omega) (by omega)) rfl <| ?_
    have z47 : 0 ≤ (r40 q x1 (q (16 + ((6 * x1) + x3)))) ∧ (r40 q x1 (q (16 + ((6 * x1) + x3)))) ≤ 6 := x40 (x1 := x1) (x2 := (q (16 + ((6 * x1) + x3)))) hSW hSP hSB hRP hRB hQ hV (by omega) (by omega)
    refine ok_aloadn (pc' := 38) i39_37 rfl rfl <| ok_getfr (r := B) (pc' := 41) i39_38 o39 gr8_15 (ShWorks_k0 hSW) (ShWorks_r1 hSW) rfl <| ok_iload (pc' := 43) i39_41 rfl rfl <| ok_cp (pc' := 46) (d0 := 0) i39_43 rfl (cl_v o39 m8_63 na22 rfl rfl (bt rfl) (bt rfl) rfl (by rw [ShState_k0 hSB, o22])) ln22 (pd22 (aR B) (aI (q (16 + ((6 * x1) + x3))))) (by decide) (t22 (x1 := (q (16 + ((6 * x1) + x3)))) hSB hRB.toD hV hQ (by omega)) rfl <| ?_
    have z48 : 0 ≤ (r22 s (q (16 + ((6 * x1) + x3)))) ∧ (r22 s (q (16 + ((6 * x1) + x3)))) ≤ 144 := x22 (x1 := (q (16 + ((6 * x1) + x3)))) hSB hRB.toD hV hQ (by omega)
    refine ok_cle (pc1 := 51) (pc2 := 49) i39_46 (by omega) rfl rfl (fun h2 => ?_) (fun h2 => ?_)
    · refine ok_iinc (pc' := 54) (v := (x3 + 1)) (ls' := [aR W, aI x1, aI (q (10 + x1)), aI (x3 + 1), aI (q (16 + ((6 * x1) + x3)))]) i39_51 rfl rfl rfl rfl <| ok_goto (pc' := 12) i39_54 rfl <| ?_
      have e : f39 q s x1 x3 a9 = .inl a9 := by unfold f39; rw [if_pos h2]
      exact ih _ _ _ e ⟨rfl, by omega, _, rfl, rfl⟩
    · refine ok_iconst (pc' := 50) i39_49 rfl <| ok_iretz i39_50 rt39 (by decide) <| ?_
      have e : f39 q s x1 x3 a9 = .inr 0 := by unfold f39; rw [if_neg (by omega)]
      have e2 : (r39 q s x1) = 0 := by unfold r39; rw [hr _ e]; rfl
      exact ⟨by rw [e2], rfl, rfl, by rw [e2]; omega⟩
  · rintro x3 a9 ls M9 g1 g2 ⟨hM, hinv, w4, hw4, rfl⟩
    rw [hM]
    have g3 : x3 = (q (10 + x1)) := by omega
    refine ok_iloadn (pc' := 13) i39_12 rfl rfl <| ok_iloadn (pc' := 14) i39_13 rfl rfl <| ?_
    refine ok_cge (pc1 := 57) (pc2 := 17) i39_14 (by omega) rfl rfl (fun h1 => ?_) (fun h9 => by exfalso; omega)
    refine ok_iconst (pc' := 58) i39_57 rfl <| ok_iretz i39_58 rt39 (by decide) <| ?_
    have e2 : (r39 q s x1) = 1 := by unfold r39; rw [g2]; unfold itr; dsimp only; unfold k39; rfl
    exact ⟨by rw [e2], rfl, rfl, by rw [e2]; omega⟩
theorem x39 {g : AG} {M : AM} {W P B : Nat} {q s : Int → Int} {b : Int} {x1 : Int} (hSW : ShWorks g W P B) (hSP : ShPlan g P) (hSB : ShState g B) (hRP : RepP M P q) (hRB : RepS M B s) (hQ : ValQ q) (hV : Val b q s) (h1 : 0 ≤ x1 ∧ x1 < q 1) : 0 ≤ (r39 q s x1) ∧ (r39 q s x1) ≤ 1 := by
  obtain ⟨_, _, _, _, _, _, _, _, h⟩ := u39 (x1 := x1) hSW hSP hSB hRP hRB hQ hV h1
  exact h
theorem t39 {g : AG} {M : AM} {W P B : Nat} {q s : Int → Int} {b : Int} {x1 : Int} (hSW : ShWorks g W P B) (hSP : ShPlan g P) (hSB : ShState g B) (hRP : RepP M P q) (hRB : RepS M B s) (hQ : ValQ q) (hV : Val b q s) (h1 : 0 ≤ x1 ∧ x1 < q 1) :
    Ok 1 39 0 [aR W, aI x1, aU, aU, aU] [] g M (Rt (some (aI (r39 q s x1))) g (fun M9 => M9 = M)) := (u39 hSW hSP hSB hRP hRB hQ hV h1).mono (fun o g1 M1 h => ⟨h.1, h.2.1, h.2.2.1⟩)
def r47 (s : Int → Int) (x1 : Int) : Int := (if (r23 s) ≠ (-1) then (if x1 = 0 then (if (r24 s (s (94 + (r23 s)))) ≠ (-1) then (s (414 + (8 * (r24 s (s (94 + (r23 s))))))) else (-1)) else (r27 s (s (94 + (r23 s))))) else (-1))
theorem u47 {g : AG} {M : AM} {W P B : Nat} {q s : Int → Int} {b : Int} {x1 : Int} (hSW : ShWorks g W P B) (hSP : ShPlan g P) (hSB : ShState g B) (hRP : RepP M P q) (hRB : RepS M B s) (hQ : ValQ q) (hV : Val b q s) (h1 : -2147483648 ≤ x1 ∧ x1 < 2147483648) :
    Ok 1 47 0 [aR W, aI x1, aU, aU, aU] [] g M (Rt (some (aI (r47 s x1))) g (fun M9 => M9 = M ∧ (-1 ≤ (r47 s x1) ∧ (r47 s x1) ≤ 200))) := by
  have yq0 : 0 ≤ q 0 ∧ q 0 ≤ 4 := Q_0 hQ
  have yq1 : 0 ≤ q 1 ∧ q 1 ≤ 6 := Q_1 hQ
  have ys3 : 0 ≤ s 3 ∧ s 3 ≤ 80 := V_3 hV
  have ys4 : 0 ≤ s 4 ∧ s 4 ≤ 16 := V_4 hV
  refine ok_aloadn (pc' := 1) i47_0 rfl rfl <| ok_getfr (r := B) (pc' := 4) i47_1 o47 gr8_15 (ShWorks_k0 hSW) (ShWorks_r1 hSW) rfl <| ok_cp (pc' := 7) (d0 := 0) i47_4 rfl (cl_v o47 m8_112 na23 rfl rfl (bt rfl) (bt rfl) rfl (by rw [ShState_k0 hSB, o23])) ln23 (pd23 (aR B)) (by decide) (t23 hSB hRB hV hQ) rfl <| ?_
  have z1 : -1 ≤ (r23 s) ∧ (r23 s) < s 3 ∧ (r23 s) < 80 := x23 hSB hRB hV hQ
  refine ok_istoren (pc' := 8) (ls' := [aR W, aI x1, aI (r23 s), aU, aU]) i47_7 (bt rfl) rfl rfl <| ok_iloadn (pc' := 9) i47_8 rfl rfl <| ok_iconst (pc' := 10) i47_9 rfl <| ?_
  refine ok_cne (pc1 := 15) (pc2 := 13) i47_10 (by omega) rfl rfl (fun h1 => ?_) (fun h1 => ?_)
  · refine ok_aloadn (pc' := 16) i47_15 rfl rfl <| ok_getfr (r := B) (pc' := 19) i47_16 o47 gr8_15 (ShWorks_k0 hSW) (ShWorks_r1 hSW) rfl <| ok_getfr (r := (B + 2)) (pc' := 22) i47_19 o47 gr8_25 (ShState_k0 hSB) (ShState_r3 hSB) rfl <| ok_iconst (pc' := 23) i47_22 rfl <| ok_aaload (r := (B + 4)) (pc' := 24) i47_23 (ShState_k2 hSB) (by decide) (ShState_l2 hSB) (by decide) (ShState_e2_1 hSB) rfl <| ok_iloadn (pc' := 25) i47_24 rfl rfl <| ?_
    have z2 : 0 ≤ s (94 + (r23 s)) ∧ s (94 + (r23 s)) ≤ 200 := V_d1 hV (i := (r23 s)) (by omega) (by omega)
    refine ok_iaload (v := (s (94 + (r23 s)))) (pc' := 26) i47_25 (ShState_k4 hSB) (by decide) (ShState_l4 hSB) (by omega) (RepS_4 hRB (by omega) (by omega)) rfl <| ok_istoren (pc' := 27) (ls' := [aR W, aI x1, aI (r23 s), aI (s (94 + (r23 s))), aU]) i47_26 (bt rfl) rfl rfl <| ok_iloadn (pc' := 28) i47_27 rfl rfl <| ?_
    refine ok_zeq (pc1 := 40) (pc2 := 31) i47_28 (by omega) rfl rfl (fun h2 => ?_) (fun h2 => ?_)
    · refine ok_aloadn (pc' := 41) i47_40 rfl rfl <| ok_getfr (r := B) (pc' := 44) i47_41 o47 gr8_15 (ShWorks_k0 hSW) (ShWorks_r1 hSW) rfl <| ok_iloadn (pc' := 45) i47_44 rfl rfl <| ok_cp (pc' := 48) (d0 := 0) i47_45 rfl (cl_v o47 m8_118 na24 rfl rfl (bt rfl) (bt rfl) rfl (by rw [ShState_k0 hSB, o24])) ln24 (pd24 (aR B) (aI (s (94 + (r23 s))))) (by decide) (t24 (x1 := (s (94 + (r23 s)))) hSB hRB.toD hV hQ (by omega)) rfl <| ?_
      have z3 : -1 ≤ (r24 s (s (94 + (r23 s)))) ∧ (r24 s (s (94 + (r23 s)))) < s 4 ∧ (r24 s (s (94 + (r23 s)))) < 16 := x24 (x1 := (s (94 + (r23 s)))) hSB hRB.toD hV hQ (by omega)
      refine ok_istore (pc' := 50) (ls' := [aR W, aI x1, aI (r23 s), aI (s (94 + (r23 s))), aI (r24 s (s (94 + (r23 s))))]) i47_48 (bt rfl) rfl rfl <| ok_iload (pc' := 52) i47_50 rfl rfl <| ok_iconst (pc' := 53) i47_52 rfl <| ?_
      refine ok_cne (pc1 := 60) (pc2 := 56) i47_53 (by omega) rfl rfl (fun h3 => ?_) (fun h3 => ?_)
      · refine ok_aloadn (pc' := 61) i47_60 rfl rfl <| ok_getfr (r := B) (pc' := 64) i47_61 o47 gr8_15 (ShWorks_k0 hSW) (ShWorks_r1 hSW) rfl <| ok_getfr (r := (B + 8)) (pc' := 67) i47_64 o47 gr8_90 (ShState_k0 hSB) (ShState_r5 hSB) rfl <| ok_iconst (pc' := 68) i47_67 rfl <| ok_aaload (r := (B + 9)) (pc' := 69) i47_68 (ShState_k8 hSB) (by decide) (ShState_l8 hSB) (by decide) (ShState_e8_0 hSB) rfl <| ok_iload (pc' := 71) i47_69 rfl rfl <| ?_
        have z4 : 1 ≤ s (414 + (8 * (r24 s (s (94 + (r23 s)))))) ∧ s (414 + (8 * (r24 s (s (94 + (r23 s)))))) ≤ 200 := V_o0 hV (i := (r24 s (s (94 + (r23 s))))) (by omega) (by omega)
        refine ok_iaload (v := (s (414 + (8 * (r24 s (s (94 + (r23 s)))))))) (pc' := 72) i47_71 (ShState_k9 hSB) (by decide) (ShState_l9 hSB) (by omega) (RepS_9 hRB (by omega) (by omega)) rfl <| ok_ireti i47_72 rt47 <| ?_
        have e2 : (r47 s x1) = (s (414 + (8 * (r24 s (s (94 + (r23 s))))))) := by unfold r47; rw [if_pos h1, if_pos h2, if_pos h3]
        exact ⟨by rw [e2], rfl, rfl, by rw [e2]; omega⟩
      · refine ok_iconst (pc' := 57) i47_56 rfl <| ok_goto (pc' := 72) i47_57 rfl <| ok_ireti i47_72 rt47 <| ?_
        have e2 : (r47 s x1) = (-1) := by unfold r47; rw [if_pos h1, if_pos h2, if_neg (by omega)]
        exact ⟨by rw [e2], rfl, rfl, by rw [e2]; omega⟩
    · refine ok_aloadn (pc' := 32) i47_31 rfl rfl <| ok_getfr (r := B) (pc' := 35) i47_32 o47 gr8_15 (ShWorks_k0 hSW) (ShWorks_r1 hSW) rfl <| ok_iloadn (pc' := 36) i47_35 rfl rfl <| ok_cp (pc' := 39) (d0 := 0) i47_36 rfl (cl_v o47 m8_115 na27 rfl rfl (bt rfl) (bt rfl) rfl (by rw [ShState_k0 hSB, o27])) ln27 (pd27 (aR B) (aI (s (94 + (r23 s))))) (by decide) (t27 (x1 := (s (94 + (r23 s)))) hSB hRB.toD hV hQ (by omega)) rfl <| ?_
      have z5 : -1 ≤ (r27 s (s (94 + (r23 s)))) ∧ (r27 s (s (94 + (r23 s)))) ≤ 200 := x27 (x1 := (s (94 + (r23 s)))) hSB hRB.toD hV hQ (by omega)
      refine ok_ireti i47_39 rt47 <| ?_
      have e2 : (r47 s x1) = (r27 s (s (94 + (r23 s)))) := by unfold r47; rw [if_pos h1, if_neg (by omega)]
      exact ⟨by rw [e2], rfl, rfl, by rw [e2]; omega⟩
  · refine ok_iconst (pc' := 14) i47_13 rfl <| ok_ireti i47_14 rt47 <| ?_
    have e2 : (r47 s x1) = (-1) := by unfold r47; rw [if_neg (by omega)]
    exact ⟨by rw [e2], rfl, rfl, by rw [e2]; omega⟩
theorem x47 {g : AG} {M : AM} {W P B : Nat} {q s : Int → Int} {b : Int} {x1 : Int} (hSW : ShWorks g W P B) (hSP : ShPlan g P) (hSB : ShState g B) (hRP : RepP M P q) (hRB : RepS M B s) (hQ : ValQ q) (hV : Val b q s) (h1 : -2147483648 ≤ x1 ∧ x1 < 2147483648) : -1 ≤ (r47 s x1) ∧ (r47 s x1) ≤ 200 := by
  obtain ⟨_, _, _, _, _, _, _, _, h⟩ := u47 (x1 := x1) hSW hSP hSB hRP hRB hQ hV h1
  exact h
theorem t47 {g : AG} {M : AM} {W P B : Nat} {q s : Int → Int} {b : Int} {x1 : Int} (hSW : ShWorks g W P B) (hSP : ShPlan g P) (hSB : ShState g B) (hRP : RepP M P q) (hRB : RepS M B s) (hQ : ValQ q) (hV : Val b q s) (h1 : -2147483648 ≤ x1 ∧ x1 < 2147483648) :
    Ok 1 47 0 [aR W, aI x1, aU, aU, aU] [] g M (Rt (some (aI (r47 s x1))) g (fun M9 => M9 = M)) := (u47 hSW hSP hSB hRP hRB hQ hV h1).mono (fun o g1 M1 h => ⟨h.1, h.2.1, h.2.2.1⟩)
def fh222 (s q : Int → Int) (x1 : Int) (x4 x9 : Int) : Int ⊕ Int := (if x9 = (-1) then (.inr x9) else (if (q (16 + ((6 * x1) + x4))) ≤ x9 then (.inl (max 0 ((x9 - (q (16 + ((6 * x1) + x4)))) - (s 1)))) else (.inl (-1))))
def kh222 (x9 : Int) : Int := x9
def rh222 (s q : Int → Int) (x1 x3 : Int) : Int := itr (itx (fh222 s q x1) x3 0 ((q (10 + x1)).toNat)) (kh222)
def r222 (s q : Int → Int) (x1 x2 : Int) : Int := (if (s (174 + x2)) ≠ 0 then (rh222 s q x1 (-1)) else (rh222 s q x1 (s (94 + x2))))
def f225 (s q : Int → Int) (x1 : Int) (x3 x2 : Int) : Int := (if (r222 s q x1 x3) = (-1) then x2 else (if x2 = (-1) then x3 else (if (s (94 + x2)) ≤ (s (94 + x3)) then x2 else x3)))
def k225 (x2 : Int) : Int := x2
def r225 (s q : Int → Int) (x1 : Int) : Int := k225 (itv (f225 s q x1) (-1) 0 ((s 3).toNat))
def f241 (s : Int → Int) (x1 : Int) (x3 x2 : Int) : Int := (if (s ((414 + (8 * x3)) + 4)) ≤ 0 then x2 else (if (r213 s (s (414 + (8 * x3))) 0) ≠ (-1) then (if x2 = (-1) then x3 else (if x1 ≠ 0 then (if (s (414 + (8 * x3))) ≤ (s (414 + (8 * x2))) then x2 else x3) else (if (s ((414 + (8 * x2)) + 3)) ≤ (s ((414 + (8 * x3)) + 3)) then x2 else x3))) else x2))
def k241 (s : Int → Int) (x2 : Int) : Int := (if x2 ≠ (-1) then (s (414 + (8 * x2))) else 0)
def r241 (s : Int → Int) (x1 : Int) : Int := k241 s (itv (f241 s x1) (-1) 0 ((s 4).toNat))
def f9 (q : Int → Int) (x1 x2 : Int) (x3 a9 : Int) : Int ⊕ Int := (if (q (2 + x3)) ≠ x1 then (.inl a9) else (if (q (6 + x3)) ≠ x2 then (.inl a9) else (.inr 1)))
def k9 (a9 : Int) : Int := 0
def r9 (q : Int → Int) (x1 x2 : Int) : Int := itr (itx (f9 q x1 x2) 0 0 ((q 0).toNat)) (k9)
theorem u9 {g : AG} {M : AM} {P : Nat} {q : Int → Int} {x1 x2 : Int} (hSP : ShPlan g P) (hRP : RepP M P q) (hQ : ValQ q) (h1 : -2147483648 ≤ x1 ∧ x1 < 2147483648) (h2 : -2147483648 ≤ x2 ∧ x2 < 2147483648) :
    Ok 0 9 0 [aR P, aI x1, aI x2, aU] [] g M (Rt (some (aI (r9 q x1 x2))) g (fun M9 => M9 = M ∧ (0 ≤ (r9 q x1 x2) ∧ (r9 q x1 x2) ≤ 1))) := by
  have yq0 : 0 ≤ q 0 ∧ q 0 ≤ 4 := Q_0 hQ
  have yq1 : 0 ≤ q 1 ∧ q 1 ≤ 6 := Q_1 hQ
  refine ok_iconst (pc' := 1) i9_0 rfl <| ok_istoren (pc' := 2) (ls' := [aR P, aI x1, aI x2, aI 0]) i9_1 (bt rfl) rfl rfl <| ?_
  refine ok_forx (lo := 0) (n := (q 0).toNat) (f := (f9 q x1 x2)) (a0 := 0) (fun x3 a9 ls M9 => M9 = M ∧ (x3 ≤ q 0) ∧ ls = [aR P, aI x1, aI x2, aI x3]) ?_ ?_ _ _ ⟨rfl, by omega, rfl⟩
  · rintro x3 a9 ls M9 g1 g2 ⟨hM, hinv, rfl⟩ hr ih
    rw [hM]
    have g3 : x3 < (q 0) := by omega
    refine ok_iloadn (pc' := 3) i9_2 rfl rfl <| ok_aloadn (pc' := 4) i9_3 rfl rfl <| ok_getfi (v := (q 0)) (pc' := 7) i9_4 o9 gi4_26 (ShPlan_k0 hSP) (RepP_f0 hRP) rfl <| ?_
    refine ok_cge (pc1 := 38) (pc2 := 10) i9_7 (by omega) rfl rfl (fun h9 => by exfalso; omega) (fun h1 => ?_)
    refine ok_aloadn (pc' := 11) i9_10 rfl rfl <| ok_getfr (r := (P + 1)) (pc' := 14) i9_11 o9 gr4_9 (ShPlan_k0 hSP) (ShPlan_r1 hSP) rfl <| ok_iloadn (pc' := 15) i9_14 rfl rfl <| ?_
    have z43 : 1 ≤ q (2 + x3) ∧ q (2 + x3) ≤ 200 := Q_2 hQ (i := x3) (by omega) (by omega)
    refine ok_iaload (v := (q (2 + x3))) (pc' := 16) i9_15 (ShPlan_k1 hSP) (by decide) (ShPlan_l1 hSP) (by omega) (RepP_1 hRP (by omega) (by omega)) rfl <| ok_iloadn (pc' := 17) i9_16 rfl rfl <| ?_
    refine ok_cne (pc1 := 32) (pc2 := 20) i9_17 (by omega) rfl rfl (fun h2 => ?_) (fun h2 => ?_)
    · refine ok_iinc (pc' := 35) (v := (x3 + 1)) (ls' := [aR P, aI x1, aI x2, aI (x3 + 1)]) i9_32 rfl rfl rfl rfl <| ok_goto (pc' := 2) i9_35 rfl <| ?_
      have e : f9 q x1 x2 x3 a9 = .inl a9 := by unfold f9; rw [if_pos h2]
      exact ih _ _ _ e ⟨rfl, by omega, rfl⟩
    · refine ok_aloadn (pc' := 21) i9_20 rfl rfl <| ok_getfr (r := (P + 2)) (pc' := 24) i9_21 o9 gr4_15 (ShPlan_k0 hSP) (ShPlan_r2 hSP) rfl <| ok_iloadn (pc' := 25) i9_24 rfl rfl <| ?_
      have z44 : 1 ≤ q (6 + x3) ∧ q (6 + x3) ≤ 99 := Q_6 hQ (i := x3) (by omega) (by omega)
      refine ok_iaload (v := (q (6 + x3))) (pc' := 26) i9_25 (ShPlan_k2 hSP) (by decide) (ShPlan_l2 hSP) (by omega) (RepP_2 hRP (by omega) (by omega)) rfl <| ok_iloadn (pc' := 27) i9_26 rfl rfl <| ?_
      refine ok_cne (pc1 := 32) (pc2 := 30) i9_27 (by omega) rfl rfl (fun h3 => ?_) (fun h3 => ?_)
      · refine ok_iinc (pc' := 35) (v := (x3 + 1)) (ls' := [aR P, aI x1, aI x2, aI (x3 + 1)]) i9_32 rfl rfl rfl rfl <| ok_goto (pc' := 2) i9_35 rfl <| ?_
        have e : f9 q x1 x2 x3 a9 = .inl a9 := by unfold f9; rw [if_neg (by omega), if_pos h3]
        exact ih _ _ _ e ⟨rfl, by omega, rfl⟩
      · refine ok_iconst (pc' := 31) i9_30 rfl <| ok_iretz i9_31 rt9 (by decide) <| ?_
        have e : f9 q x1 x2 x3 a9 = .inr 1 := by unfold f9; rw [if_neg (by omega), if_neg (by omega)]
        have e2 : (r9 q x1 x2) = 1 := by unfold r9; rw [hr _ e]; rfl
        exact ⟨by rw [e2], rfl, rfl, by rw [e2]; omega⟩
  · rintro x3 a9 ls M9 g1 g2 ⟨hM, hinv, rfl⟩
    rw [hM]
    have g3 : x3 = (q 0) := by omega
    refine ok_iloadn (pc' := 3) i9_2 rfl rfl <| ok_aloadn (pc' := 4) i9_3 rfl rfl <| ok_getfi (v := (q 0)) (pc' := 7) i9_4 o9 gi4_26 (ShPlan_k0 hSP) (RepP_f0 hRP) rfl <| ?_
    refine ok_cge (pc1 := 38) (pc2 := 10) i9_7 (by omega) rfl rfl (fun h1 => ?_) (fun h9 => by exfalso; omega)
    refine ok_iconst (pc' := 39) i9_38 rfl <| ok_iretz i9_39 rt9 (by decide) <| ?_
    have e2 : (r9 q x1 x2) = 0 := by unfold r9; rw [g2]; unfold itr; dsimp only; unfold k9; rfl
    exact ⟨by rw [e2], rfl, rfl, by rw [e2]; omega⟩
theorem x9 {g : AG} {M : AM} {P : Nat} {q : Int → Int} {x1 x2 : Int} (hSP : ShPlan g P) (hRP : RepP M P q) (hQ : ValQ q) (h1 : -2147483648 ≤ x1 ∧ x1 < 2147483648) (h2 : -2147483648 ≤ x2 ∧ x2 < 2147483648) : 0 ≤ (r9 q x1 x2) ∧ (r9 q x1 x2) ≤ 1 := by
  obtain ⟨_, _, _, _, _, _, _, _, h⟩ := u9 (x1 := x1) (x2 := x2) hSP hRP hQ h1 h2
  exact h
theorem t9 {g : AG} {M : AM} {P : Nat} {q : Int → Int} {x1 x2 : Int} (hSP : ShPlan g P) (hRP : RepP M P q) (hQ : ValQ q) (h1 : -2147483648 ≤ x1 ∧ x1 < 2147483648) (h2 : -2147483648 ≤ x2 ∧ x2 < 2147483648) :
    Ok 0 9 0 [aR P, aI x1, aI x2, aU] [] g M (Rt (some (aI (r9 q x1 x2))) g (fun M9 => M9 = M)) := (u9 hSP hRP hQ h1 h2).mono (fun o g1 M1 h => ⟨h.1, h.2.1, h.2.2.1⟩)

