/-! WANTED (by program, wip/gen) -/
theorem o227 : am_oc 227 = 9 := by decide +kernel
theorem m9_193 : am_mlk 9 193 1 185 = true := by decide +kernel
theorem na185 : am_na 185 = 1 := by decide +kernel
theorem nl185 : am_nL 185 = 1 := by decide +kernel
theorem pd185 : ∀ a0 : AV, am_pad 185 [a0] = [a0] := by intros; unfold am_pad; rw [nl185]; rfl
theorem ln185 : 1 ≤ am_nL 185 := by rw [nl185]; decide
theorem o185 : am_oc 185 = 9 := by decide +kernel
theorem rt185 : am_rt 185 = some .int := by decide +kernel
theorem rt227 : am_rt 227 = some .boolean := by decide +kernel
theorem m9_251 : am_mlk 9 251 0 207 = true := by decide +kernel
theorem na207 : am_na 207 = 1 := by decide +kernel
theorem nl207 : am_nL 207 = 4 := by decide +kernel
theorem pd207 : ∀ a0 a1 : AV, am_pad 207 [a0, a1] = [a0, a1, aU, aU] := by intros; unfold am_pad; rw [nl207]; rfl
theorem ln207 : 2 ≤ am_nL 207 := by rw [nl207]; decide
def f227_30 (q : Int → Int) (x1 x3 : Int) (x5 x4 : Int) : Int := (if (q (16 + ((6 * x1) + x5))) ≠ x3 then x4 else (x4 + 1))
theorem w227_30 {g : AG} {M : AM} {O : Nat} {s q : Int → Int} {b : Int} {x0 x1 x2 x3 : Int} {d : Nat} {Q : AO → AG → AM → Prop} (hSO : ShModel g O) (hRO : RepO M O q s) (hV : Val b q s) (hQ : ValQ q) (h1 : 0 ≤ x1 ∧ x1 < q 1) (h3 : -2147483648 ≤ x3 ∧ x3 < 2147483648)  (K : x0 ≤ (itv (f227_30 q x1 x3) x0 0 ((q (10 + x1)).toNat)) ∧ (itv (f227_30 q x1 x3) x0 0 ((q (10 + x1)).toNat)) ≤ x0 + 6 → Ok (d + 2) 227 76 [aR O, aI x1, aI x2, aI x3, aI (itv (f227_30 q x1 x3) x0 0 ((q (10 + x1)).toNat)), aI (q (10 + x1))] [] g M Q) :
    Ok (d + 2) 227 30 [aR O, aI x1, aI x2, aI x3, aI x0, aI 0] [] g M Q := by
  have ys3 : 0 ≤ s 3 ∧ s 3 ≤ 80 := V_3 hV
  have ys4 : 0 ≤ s 4 ∧ s 4 ≤ 16 := V_4 hV
  have yq0 : 0 ≤ q 0 ∧ q 0 ≤ 4 := Q_0 hQ
  have yq1 : 0 ≤ q 1 ∧ q 1 ≤ 6 := Q_1 hQ
  have t1 : 1 ≤ q (10 + x1) ∧ q (10 + x1) ≤ 6 := Q_10 hQ (by omega) (by omega)
  refine ok_for (lo := 0) (n := (q (10 + x1)).toNat) (f := (f227_30 q x1 x3)) (a0 := x0) (fun x5 x4 ls M9 => M9 = M ∧ (x0 ≤ x4 ∧ x4 ≤ x0 + x5 ∧ x5 ≤ q (10 + x1)) ∧ ls = [aR O, aI x1, aI x2, aI x3, aI x4, aI x5]) ?_ ?_ _ _ ⟨rfl, by omega, rfl⟩
  · rintro x5 x4 ls M9 g1 g2 ⟨hM, hinv, rfl⟩ ih
    rw [hM]
    have g3 : x5 < (q (10 + x1)) := by omega
    refine ok_iload (pc' := 32) i227_30 rfl rfl <| ok_aloadn (pc' := 33) i227_32 rfl rfl <| ok_getfr (r := (O + 3)) (pc' := 36) i227_33 o227 gr9_16 (ShModel_k0 hSO) (ShModel_r6 hSO) rfl <| ok_iloadn (pc' := 37) i227_36 rfl rfl <| ?_
    have z41 : 1 ≤ q (10 + x1) ∧ q (10 + x1) ≤ 6 := Q_10 hQ (i := x1) (by omega) (by omega)
    refine ok_iaload (v := (q (10 + x1))) (pc' := 38) i227_37 (ShModel_k3 hSO) (by decide) (ShModel_l3 hSO) (by omega) (RepO_3 hRO (by omega) (by omega)) rfl <| ?_
    refine ok_cge (pc1 := 76) (pc2 := 41) i227_38 (by omega) rfl rfl (fun h9 => by exfalso; omega) (fun h1 => ?_)
    refine ok_iload (pc' := 43) i227_41 rfl rfl <| ok_aloadn (pc' := 44) i227_43 rfl rfl <| ok_getfr (r := (O + 4)) (pc' := 47) i227_44 o227 gr9_19 (ShModel_k0 hSO) (ShModel_r7 hSO) rfl <| ok_bipush (v := 6) (pc' := 49) i227_47 rfl rfl <| ok_iloadn (pc' := 50) i227_49 rfl rfl <| ok_imul (v := (6 * x1)) (pc' := 51) i227_50 rfl rfl <| ok_iload (pc' := 53) i227_51 rfl rfl <| ok_iadd (v := ((6 * x1) + x5)) (pc' := 54) i227_53 rfl rfl <| ?_
    have z42 : 1 ≤ q (16 + ((6 * x1) + x5)) ∧ q (16 + ((6 * x1) + x5)) ≤ 200 := Q_16 hQ (w := x1) (i := x5) (by omega) (by omega) (by omega) (by omega)
    refine ok_iaload (v := (q (16 + ((6 * x1) + x5)))) (pc' := 55) i227_54 (ShModel_k4 hSO) (by decide) (ShModel_l4 hSO) (by omega) (RepO_4 hRO (w := x1) (i := x5) (by omega) (by omega) (by omega) (by omega) (by omega)) rfl <| ok_iloadn (pc' := 56) i227_55 rfl rfl <| ?_
    refine ok_cne (pc1 := 63) (pc2 := 59) i227_56 (by omega) rfl rfl (fun h2 => ?_) (fun h2 => ?_)
    · refine ok_iconst (pc' := 64) i227_63 rfl <| ok_cc i227_64 rfl (cl_s o227 m9_193 na185 rfl rfl (bt rfl) (bt rfl) rfl) ln185 (pd185 (aI 0)) <| ok_iloadn (pc' := 1) i185_0 rfl rfl <| ok_kz1 (pc1 := 8) (pc2 := 4) i185_1 (by decide) rfl rfl <| ok_iconst (pc' := 9) i185_8 rfl <| ok_ireti i185_9 rt185 <| kt_v (pc' := 67) rfl <| ok_iadd (v := x4) (pc' := 68) i227_67 (by omega) rfl <| ?_
      refine ok_istore (pc' := 70) (ls' := [aR O, aI x1, aI x2, aI x3, aI x4, aI x5]) i227_68 (bt rfl) rfl rfl <| ok_iinc (pc' := 73) (v := (x5 + 1)) (ls' := [aR O, aI x1, aI x2, aI x3, aI x4, aI (x5 + 1)]) i227_70 rfl rfl rfl rfl <| ok_goto (pc' := 30) i227_73 rfl <| ?_
      have e : f227_30 q x1 x3 x5 x4 = x4 := by unfold f227_30; rw [if_pos h2]
      exact ih _ _ ⟨rfl, by first | omega | (rw [e]; omega), by rw [e]⟩
    · refine ok_iconst (pc' := 60) i227_59 rfl <| ok_goto (pc' := 64) i227_60 rfl <| ok_cc i227_64 rfl (cl_s o227 m9_193 na185 rfl rfl (bt rfl) (bt rfl) rfl) ln185 (pd185 (aI 1)) <| ok_iloadn (pc' := 1) i185_0 rfl rfl <| ok_kz0 (pc1 := 8) (pc2 := 4) i185_1 (by decide) rfl rfl <| ok_iconst (pc' := 5) i185_4 rfl <| ok_goto (pc' := 9) i185_5 rfl <| ok_ireti i185_9 rt185 <| ?_
      refine kt_v (pc' := 67) rfl <| ok_iadd (v := (x4 + 1)) (pc' := 68) i227_67 rfl rfl <| ok_istore (pc' := 70) (ls' := [aR O, aI x1, aI x2, aI x3, aI (x4 + 1), aI x5]) i227_68 (bt rfl) rfl rfl <| ok_iinc (pc' := 73) (v := (x5 + 1)) (ls' := [aR O, aI x1, aI x2, aI x3, aI (x4 + 1), aI (x5 + 1)]) i227_70 rfl rfl rfl rfl <| ok_goto (pc' := 30) i227_73 rfl <| ?_
      have e : f227_30 q x1 x3 x5 x4 = (x4 + 1) := by unfold f227_30; rw [if_neg (by omega)]
      exact ih _ _ ⟨rfl, by first | omega | (rw [e]; omega), by rw [e]⟩
  · rintro x5 x4 ls M9 g1 g2 ⟨hM, hinv, rfl⟩
    rw [hM]
    have g3 : x5 = (q (10 + x1)) := by omega
    refine ok_iload (pc' := 32) i227_30 rfl rfl <| ok_aloadn (pc' := 33) i227_32 rfl rfl <| ok_getfr (r := (O + 3)) (pc' := 36) i227_33 o227 gr9_16 (ShModel_k0 hSO) (ShModel_r6 hSO) rfl <| ok_iloadn (pc' := 37) i227_36 rfl rfl <| ?_
    have z41 : 1 ≤ q (10 + x1) ∧ q (10 + x1) ≤ 6 := Q_10 hQ (i := x1) (by omega) (by omega)
    refine ok_iaload (v := (q (10 + x1))) (pc' := 38) i227_37 (ShModel_k3 hSO) (by decide) (ShModel_l3 hSO) (by omega) (RepO_3 hRO (by omega) (by omega)) rfl <| ?_
    refine ok_cge (pc1 := 76) (pc2 := 41) i227_38 (by omega) rfl rfl (fun h1 => ?_) (fun h9 => by exfalso; omega)
    subst g3
    rw [← g2]
    exact K (by rw [g2]; omega)
def f227 (s q : Int → Int) (x1 : Int) (x2 a9 : Int) : Int ⊕ Int := (if (itv (f227_30 q x1 (q (16 + ((6 * x1) + x2)))) 0 0 ((q (10 + x1)).toNat)) ≤ (r207 s (q (16 + ((6 * x1) + x2)))) then (.inl a9) else (.inr 0))
def k227 (a9 : Int) : Int := 1
def r227 (s q : Int → Int) (x1 : Int) : Int := itr (itx (f227 s q x1) 0 0 ((q (10 + x1)).toNat)) (k227)
theorem u227 {g : AG} {M : AM} {O : Nat} {s q : Int → Int} {b : Int} {x1 : Int} (hSO : ShModel g O) (hRO : RepO M O q s) (hV : Val b q s) (hQ : ValQ q) (h1 : 0 ≤ x1 ∧ x1 < q 1) :
    Ok 2 227 0 [aR O, aI x1, aU, aU, aU, aU] [] g M (Rt (some (aI (r227 s q x1))) g (fun M9 => M9 = M ∧ (0 ≤ (r227 s q x1) ∧ (r227 s q x1) ≤ 1))) := by
  have ys3 : 0 ≤ s 3 ∧ s 3 ≤ 80 := V_3 hV
  have ys4 : 0 ≤ s 4 ∧ s 4 ≤ 16 := V_4 hV
  have yq0 : 0 ≤ q 0 ∧ q 0 ≤ 4 := Q_0 hQ
  have yq1 : 0 ≤ q 1 ∧ q 1 ≤ 6 := Q_1 hQ
  have t1 : 1 ≤ q (10 + x1) ∧ q (10 + x1) ≤ 6 := Q_10 hQ (by omega) (by omega)
  refine ok_iconst (pc' := 1) i227_0 rfl <| ok_istoren (pc' := 2) (ls' := [aR O, aI x1, aI 0, aU, aU, aU]) i227_1 (bt rfl) rfl rfl <| ?_
  refine ok_forx (lo := 0) (n := (q (10 + x1)).toNat) (f := (f227 s q x1)) (a0 := 0) (fun x2 a9 ls M9 => M9 = M ∧ (x2 ≤ (q (10 + x1))) ∧ ∃ w3 w4 w5 : AV, am_cat w3 = 1 ∧ am_cat w4 = 1 ∧ am_cat w5 = 1 ∧ ls = [aR O, aI x1, aI x2, w3, w4, w5]) ?_ ?_ _ _ ⟨rfl, by omega, aU, aU, aU, rfl, rfl, rfl, rfl⟩
  · rintro x2 a9 ls M9 g1 g2 ⟨hM, hinv, w3, w4, w5, hw3, hw4, hw5, rfl⟩ hr ih
    rw [hM]
    have g3 : x2 < (q (10 + x1)) := by omega
    refine ok_iloadn (pc' := 3) i227_2 rfl rfl <| ok_aloadn (pc' := 4) i227_3 rfl rfl <| ok_getfr (r := (O + 3)) (pc' := 7) i227_4 o227 gr9_16 (ShModel_k0 hSO) (ShModel_r6 hSO) rfl <| ok_iloadn (pc' := 8) i227_7 rfl rfl <| ?_
    have z45 : 1 ≤ q (10 + x1) ∧ q (10 + x1) ≤ 6 := Q_10 hQ (i := x1) (by omega) (by omega)
    refine ok_iaload (v := (q (10 + x1))) (pc' := 9) i227_8 (ShModel_k3 hSO) (by decide) (ShModel_l3 hSO) (by omega) (RepO_3 hRO (by omega) (by omega)) rfl <| ?_
    refine ok_cge (pc1 := 94) (pc2 := 12) i227_9 (by omega) rfl rfl (fun h9 => by exfalso; omega) (fun h1 => ?_)
    refine ok_aloadn (pc' := 13) i227_12 rfl rfl <| ok_getfr (r := (O + 4)) (pc' := 16) i227_13 o227 gr9_19 (ShModel_k0 hSO) (ShModel_r7 hSO) rfl <| ok_bipush (v := 6) (pc' := 18) i227_16 rfl rfl <| ok_iloadn (pc' := 19) i227_18 rfl rfl <| ok_imul (v := (6 * x1)) (pc' := 20) i227_19 rfl rfl <| ok_iloadn (pc' := 21) i227_20 rfl rfl <| ok_iadd (v := ((6 * x1) + x2)) (pc' := 22) i227_21 rfl rfl <| ?_
    have z46 : 1 ≤ q (16 + ((6 * x1) + x2)) ∧ q (16 + ((6 * x1) + x2)) ≤ 200 := Q_16 hQ (w := x1) (i := x2) (by omega) (by omega) (by omega) (by omega)
    refine ok_iaload (v := (q (16 + ((6 * x1) + x2)))) (pc' := 23) i227_22 (ShModel_k4 hSO) (by decide) (ShModel_l4 hSO) (by omega) (RepO_4 hRO (w := x1) (i := x2) (by omega) (by omega) (by omega) (by omega) (by omega)) rfl <| ok_istoren (pc' := 24) (ls' := [aR O, aI x1, aI x2, aI (q (16 + ((6 * x1) + x2))), w4, w5]) i227_23 (bt rfl) rfl rfl <| ok_iconst (pc' := 25) i227_24 rfl <| ok_istore (pc' := 27) (ls' := [aR O, aI x1, aI x2, aI (q (16 + ((6 * x1) + x2))), aI 0, w5]) i227_25 (bt rfl) rfl rfl <| ok_iconst (pc' := 28) i227_27 rfl <| ok_istore (pc' := 30) (ls' := [aR O, aI x1, aI x2, aI (q (16 + ((6 * x1) + x2))), aI 0, aI 0]) i227_28 (bt rfl) rfl rfl <| ?_
    refine w227_30 (x1 := x1) (x2 := x2) (x3 := (q (16 + ((6 * x1) + x2)))) hSO hRO hV hQ (by omega) (by omega)  (fun h2 => ?_)
    refine ok_iload (pc' := 78) i227_76 rfl rfl <| ok_aloadn (pc' := 79) i227_78 rfl rfl <| ok_iloadn (pc' := 80) i227_79 rfl rfl <| ok_cp (pc' := 83) (d0 := 1) i227_80 rfl (cl_v o227 m9_251 na207 rfl rfl (bt rfl) (bt rfl) rfl (by rw [ShModel_k0 hSO, o207])) ln207 (pd207 (aR O) (aI (q (16 + ((6 * x1) + x2))))) (by decide) (t207 (x1 := (q (16 + ((6 * x1) + x2)))) hSO hRO.toE hV hQ (by omega)) rfl <| ?_
    have z47 : 0 ≤ (r207 s (q (16 + ((6 * x1) + x2)))) ∧ (r207 s (q (16 + ((6 * x1) + x2)))) ≤ 144 := x207 (x1 := (q (16 + ((6 * x1) + x2)))) hSO hRO.toE hV hQ (by omega)
    refine ok_cle (pc1 := 88) (pc2 := 86) i227_83 (by omega) rfl rfl (fun h3 => ?_) (fun h3 => ?_)
    · refine ok_iinc (pc' := 91) (v := (x2 + 1)) (ls' := [aR O, aI x1, aI (x2 + 1), aI (q (16 + ((6 * x1) + x2))), aI (itv (f227_30 q x1 (q (16 + ((6 * x1) + x2)))) 0 0 ((q (10 + x1)).toNat)), aI (q (10 + x1))]) i227_88 rfl rfl rfl rfl <| ok_goto (pc' := 2) i227_91 rfl <| ?_
      have e : f227 s q x1 x2 a9 = .inl a9 := by unfold f227; rw [if_pos h3]
      exact ih _ _ _ e ⟨rfl, by omega, _, _, _, rfl, rfl, rfl, rfl⟩
    · refine ok_iconst (pc' := 87) i227_86 rfl <| ok_iretz i227_87 rt227 (by decide) <| ?_
      have e : f227 s q x1 x2 a9 = .inr 0 := by unfold f227; rw [if_neg (by omega)]
      have e2 : (r227 s q x1) = 0 := by unfold r227; rw [hr _ e]; rfl
      exact ⟨by rw [e2], rfl, rfl, by rw [e2]; omega⟩
  · rintro x2 a9 ls M9 g1 g2 ⟨hM, hinv, w3, w4, w5, hw3, hw4, hw5, rfl⟩
    rw [hM]
    have g3 : x2 = (q (10 + x1)) := by omega
    refine ok_iloadn (pc' := 3) i227_2 rfl rfl <| ok_aloadn (pc' := 4) i227_3 rfl rfl <| ok_getfr (r := (O + 3)) (pc' := 7) i227_4 o227 gr9_16 (ShModel_k0 hSO) (ShModel_r6 hSO) rfl <| ok_iloadn (pc' := 8) i227_7 rfl rfl <| ?_
    have z45 : 1 ≤ q (10 + x1) ∧ q (10 + x1) ≤ 6 := Q_10 hQ (i := x1) (by omega) (by omega)
    refine ok_iaload (v := (q (10 + x1))) (pc' := 9) i227_8 (ShModel_k3 hSO) (by decide) (ShModel_l3 hSO) (by omega) (RepO_3 hRO (by omega) (by omega)) rfl <| ?_
    refine ok_cge (pc1 := 94) (pc2 := 12) i227_9 (by omega) rfl rfl (fun h1 => ?_) (fun h9 => by exfalso; omega)
    refine ok_iconst (pc' := 95) i227_94 rfl <| ok_iretz i227_95 rt227 (by decide) <| ?_
    have e2 : (r227 s q x1) = 1 := by unfold r227; rw [g2]; unfold itr; dsimp only; unfold k227; rfl
    exact ⟨by rw [e2], rfl, rfl, by rw [e2]; omega⟩
theorem x227 {g : AG} {M : AM} {O : Nat} {s q : Int → Int} {b : Int} {x1 : Int} (hSO : ShModel g O) (hRO : RepO M O q s) (hV : Val b q s) (hQ : ValQ q) (h1 : 0 ≤ x1 ∧ x1 < q 1) : 0 ≤ (r227 s q x1) ∧ (r227 s q x1) ≤ 1 := by
  obtain ⟨_, _, _, _, _, _, _, _, h⟩ := u227 (x1 := x1) hSO hRO hV hQ h1
  exact h
theorem t227 {g : AG} {M : AM} {O : Nat} {s q : Int → Int} {b : Int} {x1 : Int} (hSO : ShModel g O) (hRO : RepO M O q s) (hV : Val b q s) (hQ : ValQ q) (h1 : 0 ≤ x1 ∧ x1 < q 1) :
    Ok 2 227 0 [aR O, aI x1, aU, aU, aU, aU] [] g M (Rt (some (aI (r227 s q x1))) g (fun M9 => M9 = M)) := (u227 hSO hRO hV hQ h1).mono (fun o g1 M1 h => ⟨h.1, h.2.1, h.2.2.1⟩)
