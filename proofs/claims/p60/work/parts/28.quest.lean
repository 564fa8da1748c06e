/-! QUESTIONS (by program, wip/gen) -/
theorem gi5_39 : am_gfi 5 39 5 4 = true := by decide +kernel
theorem o19 : am_oc 19 = 5 := by decide +kernel
theorem rt19 : am_rt 19 = some .int := by decide +kernel
theorem gr5_20 : am_gfr 5 20 5 5 = true := by decide +kernel
theorem o20 : am_oc 20 = 5 := by decide +kernel
theorem rt20 : am_rt 20 = some .int := by decide +kernel
theorem o22 : am_oc 22 = 5 := by decide +kernel
theorem rt22 : am_rt 22 = some .int := by decide +kernel
theorem o24 : am_oc 24 = 5 := by decide +kernel
theorem rt24 : am_rt 24 = some .int := by decide +kernel
theorem o25 : am_oc 25 = 5 := by decide +kernel
theorem rt25 : am_rt 25 = some .int := by decide +kernel
theorem o27 : am_oc 27 = 5 := by decide +kernel
theorem rt27 : am_rt 27 = some .int := by decide +kernel
theorem gi5_36 : am_gfi 5 36 5 2 = true := by decide +kernel
theorem o18 : am_oc 18 = 5 := by decide +kernel
theorem rt18 : am_rt 18 = some .int := by decide +kernel
theorem gr5_17 : am_gfr 5 17 5 3 = true := by decide +kernel
theorem o23 : am_oc 23 = 5 := by decide +kernel
theorem rt23 : am_rt 23 = some .int := by decide +kernel
theorem rt21 : am_rt 21 = some .int := by decide +kernel
theorem gr5_23 : am_gfr 5 23 5 6 = true := by decide +kernel
theorem o21 : am_oc 21 = 5 := by decide +kernel
theorem gr8_15 : am_gfr 8 15 8 1 = true := by decide +kernel
theorem o34 : am_oc 34 = 8 := by decide +kernel
theorem gi8_49 : am_gfi 8 49 5 2 = true := by decide +kernel
theorem rt34 : am_rt 34 = some .int := by decide +kernel
theorem gr8_25 : am_gfr 8 25 5 3 = true := by decide +kernel
theorem m8_53 : am_mlk 8 53 0 35 = true := by decide +kernel
theorem na35 : am_na 35 = 3 := by decide +kernel
theorem nl35 : am_nL 35 = 6 := by decide +kernel
theorem pd35 : ∀ a0 a1 a2 a3 : AV, am_pad 35 [a0, a1, a2, a3] = [a0, a1, a2, a3, aU, aU] := by intros; unfold am_pad; rw [nl35]; rfl
theorem ln35 : 4 ≤ am_nL 35 := by rw [nl35]; decide
theorem o35 : am_oc 35 = 8 := by decide +kernel
theorem rt35 : am_rt 35 = some .boolean := by decide +kernel
def f19 (s : Int → Int) (x2 x1 : Int) : Int := (if (s ((414 + (8 * x2)) + 4)) ≤ 0 then x1 else (x1 + 1))
def k19 (x1 : Int) : Int := x1
def r19 (s : Int → Int) : Int := k19 (itv (f19 s) 0 0 ((s 4).toNat))
theorem t19 {g : AG} {M : AM} {B : Nat} {s q : Int → Int} {b : Int} (hSB : ShState g B) (hDB : RepD M B s) (hV : Val b q s) (hQ : ValQ q) :
    Ok 0 19 0 [aR B, aU, aU] [] g M (Rt (some (aI (r19 s))) g (fun M9 => M9 = M)) := by
  have ys3 : 0 ≤ s 3 ∧ s 3 ≤ 80 := V_3 hV
  have ys4 : 0 ≤ s 4 ∧ s 4 ≤ 16 := V_4 hV
  have yq0 : 0 ≤ q 0 ∧ q 0 ≤ 4 := Q_0 hQ
  have yq1 : 0 ≤ q 1 ∧ q 1 ≤ 6 := Q_1 hQ
  refine ok_iconst (pc' := 1) i19_0 rfl <| ok_istoren (pc' := 2) (ls' := [aR B, aI 0, aU]) i19_1 (bt rfl) rfl rfl <| ok_iconst (pc' := 3) i19_2 rfl <| ok_istoren (pc' := 4) (ls' := [aR B, aI 0, aI 0]) i19_3 (bt rfl) rfl rfl <| ?_
  refine ok_for (lo := 0) (n := (s 4).toNat) (f := (f19 s)) (a0 := 0) (fun x2 x1 ls M9 => M9 = M ∧ (-1 ≤ x2) ∧ ls = [aR B, aI x1, aI x2]) ?_ ?_ _ _ ⟨rfl, by omega, rfl⟩
  · rintro x2 x1 ls M9 g1 g2 ⟨hM, hinv, rfl⟩ ih
    rw [hM]
    have g3 : x2 < (s 4) := by omega
    refine ok_iloadn (pc' := 5) i19_4 rfl rfl <| ok_aloadn (pc' := 6) i19_5 rfl rfl <| ok_getfi (v := (s 4)) (pc' := 9) i19_6 o19 gi5_39 (ShState_k0 hSB) (RepD_f4 hDB) rfl <| ?_
    refine ok_cge (pc1 := 32) (pc2 := 12) i19_9 (by omega) rfl rfl (fun h9 => by exfalso; omega) (fun h1 => ?_)
    refine ok_aloadn (pc' := 13) i19_12 rfl rfl <| ok_getfr (r := (B + 8)) (pc' := 16) i19_13 o19 gr5_20 (ShState_k0 hSB) (ShState_r5 hSB) rfl <| ok_iconst (pc' := 17) i19_16 rfl <| ok_aaload (r := (B + 13)) (pc' := 18) i19_17 (ShState_k8 hSB) (by decide) (ShState_l8 hSB) (by decide) (ShState_e8_4 hSB) rfl <| ok_iloadn (pc' := 19) i19_18 rfl rfl <| ?_
    have z45 : 0 ≤ s ((414 + (8 * x2)) + 4) ∧ s ((414 + (8 * x2)) + 4) ≤ 9 := V_o4 hV (i := x2) (by omega) (by omega)
    refine ok_iaload (v := (s ((414 + (8 * x2)) + 4))) (pc' := 20) i19_19 (ShState_k13 hSB) (by decide) (ShState_l13 hSB) (by omega) (RepD_13 hDB (by omega) (by omega)) rfl <| ?_
    refine ok_zle (pc1 := 26) (pc2 := 23) i19_20 (by omega) rfl rfl (fun h2 => ?_) (fun h2 => ?_)
    · refine ok_iinc (pc' := 29) (v := (x2 + 1)) (ls' := [aR B, aI x1, aI (x2 + 1)]) i19_26 rfl rfl rfl rfl <| ok_goto (pc' := 4) i19_29 rfl <| ?_
      have e : f19 s x2 x1 = x1 := by unfold f19; rw [if_pos h2]
      exact ih _ _ ⟨rfl, by first | omega | (rw [e]; omega), by rw [e]⟩
    · refine ok_iinc (pc' := 26) (v := (x1 + 1)) (ls' := [aR B, aI (x1 + 1), aI x2]) i19_23 rfl rfl rfl rfl <| ok_iinc (pc' := 29) (v := (x2 + 1)) (ls' := [aR B, aI (x1 + 1), aI (x2 + 1)]) i19_26 rfl rfl rfl rfl <| ok_goto (pc' := 4) i19_29 rfl <| ?_
      have e : f19 s x2 x1 = (x1 + 1) := by unfold f19; rw [if_neg (by omega)]
      exact ih _ _ ⟨rfl, by first | omega | (rw [e]; omega), by rw [e]⟩
  · rintro x2 x1 ls M9 g1 g2 ⟨hM, hinv, rfl⟩
    rw [hM]
    have g3 : x2 = (s 4) := by omega
    refine ok_iloadn (pc' := 5) i19_4 rfl rfl <| ok_aloadn (pc' := 6) i19_5 rfl rfl <| ok_getfi (v := (s 4)) (pc' := 9) i19_6 o19 gi5_39 (ShState_k0 hSB) (RepD_f4 hDB) rfl <| ?_
    refine ok_cge (pc1 := 32) (pc2 := 12) i19_9 (by omega) rfl rfl (fun h1 => ?_) (fun h9 => by exfalso; omega)
    refine ok_iloadn (pc' := 33) i19_32 rfl rfl <| ok_ireti i19_33 rt19 <| ?_
    have e2 : (r19 s) = x1 := by unfold r19; rw [g2]; unfold k19; rfl
    exact ⟨by rw [e2], rfl, rfl⟩
def f20 (s : Int → Int) (x2 x1 : Int) : Int := (x1 + (s ((414 + (8 * x2)) + 4)))
def k20 (x1 : Int) : Int := x1
def r20 (s : Int → Int) : Int := k20 (itv (f20 s) 0 0 ((s 4).toNat))
theorem u20 {g : AG} {M : AM} {B : Nat} {s q : Int → Int} {b : Int} (hSB : ShState g B) (hDB : RepD M B s) (hV : Val b q s) (hQ : ValQ q) :
    Ok 0 20 0 [aR B, aU, aU] [] g M (Rt (some (aI (r20 s))) g (fun M9 => M9 = M ∧ (0 ≤ (r20 s) ∧ (r20 s) ≤ 144))) := by
  have ys3 : 0 ≤ s 3 ∧ s 3 ≤ 80 := V_3 hV
  have ys4 : 0 ≤ s 4 ∧ s 4 ≤ 16 := V_4 hV
  have yq0 : 0 ≤ q 0 ∧ q 0 ≤ 4 := Q_0 hQ
  have yq1 : 0 ≤ q 1 ∧ q 1 ≤ 6 := Q_1 hQ
  refine ok_iconst (pc' := 1) i20_0 rfl <| ok_istoren (pc' := 2) (ls' := [aR B, aI 0, aU]) i20_1 (bt rfl) rfl rfl <| ok_iconst (pc' := 3) i20_2 rfl <| ok_istoren (pc' := 4) (ls' := [aR B, aI 0, aI 0]) i20_3 (bt rfl) rfl rfl <| ?_
  refine ok_for (lo := 0) (n := (s 4).toNat) (f := (f20 s)) (a0 := 0) (fun x2 x1 ls M9 => M9 = M ∧ (0 ≤ x1 ∧ x1 ≤ 9 * x2 ∧ x2 ≤ s 4) ∧ ls = [aR B, aI x1, aI x2]) ?_ ?_ _ _ ⟨rfl, by omega, rfl⟩
  · rintro x2 x1 ls M9 g1 g2 ⟨hM, hinv, rfl⟩ ih
    rw [hM]
    have g3 : x2 < (s 4) := by omega
    refine ok_iloadn (pc' := 5) i20_4 rfl rfl <| ok_aloadn (pc' := 6) i20_5 rfl rfl <| ok_getfi (v := (s 4)) (pc' := 9) i20_6 o20 gi5_39 (ShState_k0 hSB) (RepD_f4 hDB) rfl <| ?_
    refine ok_cge (pc1 := 29) (pc2 := 12) i20_9 (by omega) rfl rfl (fun h9 => by exfalso; omega) (fun h1 => ?_)
    refine ok_iloadn (pc' := 13) i20_12 rfl rfl <| ok_aloadn (pc' := 14) i20_13 rfl rfl <| ok_getfr (r := (B + 8)) (pc' := 17) i20_14 o20 gr5_20 (ShState_k0 hSB) (ShState_r5 hSB) rfl <| ok_iconst (pc' := 18) i20_17 rfl <| ok_aaload (r := (B + 13)) (pc' := 19) i20_18 (ShState_k8 hSB) (by decide) (ShState_l8 hSB) (by decide) (ShState_e8_4 hSB) rfl <| ok_iloadn (pc' := 20) i20_19 rfl rfl <| ?_
    have z45 : 0 ≤ s ((414 + (8 * x2)) + 4) ∧ s ((414 + (8 * x2)) + 4) ≤ 9 := V_o4 hV (i := x2) (by omega) (by omega)
    refine ok_iaload (v := (s ((414 + (8 * x2)) + 4))) (pc' := 21) i20_20 (ShState_k13 hSB) (by decide) (ShState_l13 hSB) (by omega) (RepD_13 hDB (by omega) (by omega)) rfl <| ok_iadd (v := (x1 + (s ((414 + (8 * x2)) + 4)))) (pc' := 22) i20_21 rfl rfl <| ok_istoren (pc' := 23) (ls' := [aR B, aI (x1 + (s ((414 + (8 * x2)) + 4))), aI x2]) i20_22 (bt rfl) rfl rfl <| ok_iinc (pc' := 26) (v := (x2 + 1)) (ls' := [aR B, aI (x1 + (s ((414 + (8 * x2)) + 4))), aI (x2 + 1)]) i20_23 rfl rfl rfl rfl <| ok_goto (pc' := 4) i20_26 rfl <| ?_
    have e : f20 s x2 x1 = (x1 + (s ((414 + (8 * x2)) + 4))) := by unfold f20; rfl
    exact ih _ _ ⟨rfl, by first | omega | (rw [e]; omega), by rw [e]⟩
  · rintro x2 x1 ls M9 g1 g2 ⟨hM, hinv, rfl⟩
    rw [hM]
    have g3 : x2 = (s 4) := by omega
    refine ok_iloadn (pc' := 5) i20_4 rfl rfl <| ok_aloadn (pc' := 6) i20_5 rfl rfl <| ok_getfi (v := (s 4)) (pc' := 9) i20_6 o20 gi5_39 (ShState_k0 hSB) (RepD_f4 hDB) rfl <| ?_
    refine ok_cge (pc1 := 29) (pc2 := 12) i20_9 (by omega) rfl rfl (fun h1 => ?_) (fun h9 => by exfalso; omega)
    refine ok_iloadn (pc' := 30) i20_29 rfl rfl <| ok_ireti i20_30 rt20 <| ?_
    have e2 : (r20 s) = x1 := by unfold r20; rw [g2]; unfold k20; rfl
    exact ⟨by rw [e2], rfl, rfl, by rw [e2]; omega⟩
theorem x20 {g : AG} {M : AM} {B : Nat} {s q : Int → Int} {b : Int} (hSB : ShState g B) (hDB : RepD M B s) (hV : Val b q s) (hQ : ValQ q) : 0 ≤ (r20 s) ∧ (r20 s) ≤ 144 := by
  obtain ⟨_, _, _, _, _, _, _, _, h⟩ := u20 hSB hDB hV hQ
  exact h
theorem t20 {g : AG} {M : AM} {B : Nat} {s q : Int → Int} {b : Int} (hSB : ShState g B) (hDB : RepD M B s) (hV : Val b q s) (hQ : ValQ q) :
    Ok 0 20 0 [aR B, aU, aU] [] g M (Rt (some (aI (r20 s))) g (fun M9 => M9 = M)) := (u20 hSB hDB hV hQ).mono (fun o g1 M1 h => ⟨h.1, h.2.1, h.2.2.1⟩)
def f22 (s : Int → Int) (x1 : Int) (x3 x2 : Int) : Int := (if (s (414 + (8 * x3))) ≠ x1 then x2 else (x2 + (s ((414 + (8 * x3)) + 4))))
def k22 (x2 : Int) : Int := x2
def r22 (s : Int → Int) (x1 : Int) : Int := k22 (itv (f22 s x1) 0 0 ((s 4).toNat))
theorem u22 {g : AG} {M : AM} {B : Nat} {s q : Int → Int} {b : Int} {x1 : Int} (hSB : ShState g B) (hDB : RepD M B s) (hV : Val b q s) (hQ : ValQ q) (h1 : -2147483648 ≤ x1 ∧ x1 < 2147483648) :
    Ok 0 22 0 [aR B, aI x1, aU, aU] [] g M (Rt (some (aI (r22 s x1))) g (fun M9 => M9 = M ∧ (0 ≤ (r22 s x1) ∧ (r22 s x1) ≤ 144))) := by
  have ys3 : 0 ≤ s 3 ∧ s 3 ≤ 80 := V_3 hV
  have ys4 : 0 ≤ s 4 ∧ s 4 ≤ 16 := V_4 hV
  have yq0 : 0 ≤ q 0 ∧ q 0 ≤ 4 := Q_0 hQ
  have yq1 : 0 ≤ q 1 ∧ q 1 ≤ 6 := Q_1 hQ
  refine ok_iconst (pc' := 1) i22_0 rfl <| ok_istoren (pc' := 2) (ls' := [aR B, aI x1, aI 0, aU]) i22_1 (bt rfl) rfl rfl <| ok_iconst (pc' := 3) i22_2 rfl <| ok_istoren (pc' := 4) (ls' := [aR B, aI x1, aI 0, aI 0]) i22_3 (bt rfl) rfl rfl <| ?_
  refine ok_for (lo := 0) (n := (s 4).toNat) (f := (f22 s x1)) (a0 := 0) (fun x3 x2 ls M9 => M9 = M ∧ (0 ≤ x2 ∧ x2 ≤ 9 * x3 ∧ x3 ≤ s 4) ∧ ls = [aR B, aI x1, aI x2, aI x3]) ?_ ?_ _ _ ⟨rfl, by omega, rfl⟩
  · rintro x3 x2 ls M9 g1 g2 ⟨hM, hinv, rfl⟩ ih
    rw [hM]
    have g3 : x3 < (s 4) := by omega
    refine ok_iloadn (pc' := 5) i22_4 rfl rfl <| ok_aloadn (pc' := 6) i22_5 rfl rfl <| ok_getfi (v := (s 4)) (pc' := 9) i22_6 o22 gi5_39 (ShState_k0 hSB) (RepD_f4 hDB) rfl <| ?_
    refine ok_cge (pc1 := 41) (pc2 := 12) i22_9 (by omega) rfl rfl (fun h9 => by exfalso; omega) (fun h1 => ?_)
    refine ok_aloadn (pc' := 13) i22_12 rfl rfl <| ok_getfr (r := (B + 8)) (pc' := 16) i22_13 o22 gr5_20 (ShState_k0 hSB) (ShState_r5 hSB) rfl <| ok_iconst (pc' := 17) i22_16 rfl <| ok_aaload (r := (B + 9)) (pc' := 18) i22_17 (ShState_k8 hSB) (by decide) (ShState_l8 hSB) (by decide) (ShState_e8_0 hSB) rfl <| ok_iloadn (pc' := 19) i22_18 rfl rfl <| ?_
    have z45 : 1 ≤ s (414 + (8 * x3)) ∧ s (414 + (8 * x3)) ≤ 200 := V_o0 hV (i := x3) (by omega) (by omega)
    refine ok_iaload (v := (s (414 + (8 * x3)))) (pc' := 20) i22_19 (ShState_k9 hSB) (by decide) (ShState_l9 hSB) (by omega) (RepD_9 hDB (by omega) (by omega)) rfl <| ok_iloadn (pc' := 21) i22_20 rfl rfl <| ?_
    refine ok_cne (pc1 := 35) (pc2 := 24) i22_21 (by omega) rfl rfl (fun h2 => ?_) (fun h2 => ?_)
    · refine ok_iinc (pc' := 38) (v := (x3 + 1)) (ls' := [aR B, aI x1, aI x2, aI (x3 + 1)]) i22_35 rfl rfl rfl rfl <| ok_goto (pc' := 4) i22_38 rfl <| ?_
      have e : f22 s x1 x3 x2 = x2 := by unfold f22; rw [if_pos h2]
      exact ih _ _ ⟨rfl, by first | omega | (rw [e]; omega), by rw [e]⟩
    · refine ok_iloadn (pc' := 25) i22_24 rfl rfl <| ok_aloadn (pc' := 26) i22_25 rfl rfl <| ok_getfr (r := (B + 8)) (pc' := 29) i22_26 o22 gr5_20 (ShState_k0 hSB) (ShState_r5 hSB) rfl <| ok_iconst (pc' := 30) i22_29 rfl <| ok_aaload (r := (B + 13)) (pc' := 31) i22_30 (ShState_k8 hSB) (by decide) (ShState_l8 hSB) (by decide) (ShState_e8_4 hSB) rfl <| ok_iloadn (pc' := 32) i22_31 rfl rfl <| ?_
      have z46 : 0 ≤ s ((414 + (8 * x3)) + 4) ∧ s ((414 + (8 * x3)) + 4) ≤ 9 := V_o4 hV (i := x3) (by omega) (by omega)
      refine ok_iaload (v := (s ((414 + (8 * x3)) + 4))) (pc' := 33) i22_32 (ShState_k13 hSB) (by decide) (ShState_l13 hSB) (by omega) (RepD_13 hDB (by omega) (by omega)) rfl <| ok_iadd (v := (x2 + (s ((414 + (8 * x3)) + 4)))) (pc' := 34) i22_33 rfl rfl <| ok_istoren (pc' := 35) (ls' := [aR B, aI x1, aI (x2 + (s ((414 + (8 * x3)) + 4))), aI x3]) i22_34 (bt rfl) rfl rfl <| ok_iinc (pc' := 38) (v := (x3 + 1)) (ls' := [aR B, aI x1, aI (x2 + (s ((414 + (8 * x3)) + 4))), aI (x3 + 1)]) i22_35 rfl rfl rfl rfl <| ok_goto (pc' := 4) i22_38 rfl <| ?_
      have e : f22 s x1 x3 x2 = (x2 + (s ((414 + (8 * x3)) + 4))) := by unfold f22; rw [if_neg (by omega)]
      exact ih _ _ ⟨rfl, by first | omega | (rw [e]; omega), by rw [e]⟩
  · rintro x3 x2 ls M9 g1 g2 ⟨hM, hinv, rfl⟩
    rw [hM]
    have g3 : x3 = (s 4) := by omega
    refine ok_iloadn (pc' := 5) i22_4 rfl rfl <| ok_aloadn (pc' := 6) i22_5 rfl rfl <| ok_getfi (v := (s 4)) (pc' := 9) i22_6 o22 gi5_39 (ShState_k0 hSB) (RepD_f4 hDB) rfl <| ?_
    refine ok_cge (pc1 := 41) (pc2 := 12) i22_9 (by omega) rfl rfl (fun h1 => ?_) (fun h9 => by exfalso; omega)
    refine ok_iloadn (pc' := 42) i22_41 rfl rfl <| ok_ireti i22_42 rt22 <| ?_
    have e2 : (r22 s x1) = x2 := by unfold r22; rw [g2]; unfold k22; rfl
    exact ⟨by rw [e2], rfl, rfl, by rw [e2]; omega⟩
theorem x22 {g : AG} {M : AM} {B : Nat} {s q : Int → Int} {b : Int} {x1 : Int} (hSB : ShState g B) (hDB : RepD M B s) (hV : Val b q s) (hQ : ValQ q) (h1 : -2147483648 ≤ x1 ∧ x1 < 2147483648) : 0 ≤ (r22 s x1) ∧ (r22 s x1) ≤ 144 := by
  obtain ⟨_, _, _, _, _, _, _, _, h⟩ := u22 (x1 := x1) hSB hDB hV hQ h1
  exact h
theorem t22 {g : AG} {M : AM} {B : Nat} {s q : Int → Int} {b : Int} {x1 : Int} (hSB : ShState g B) (hDB : RepD M B s) (hV : Val b q s) (hQ : ValQ q) (h1 : -2147483648 ≤ x1 ∧ x1 < 2147483648) :
    Ok 0 22 0 [aR B, aI x1, aU, aU] [] g M (Rt (some (aI (r22 s x1))) g (fun M9 => M9 = M)) := (u22 hSB hDB hV hQ h1).mono (fun o g1 M1 h => ⟨h.1, h.2.1, h.2.2.1⟩)
def f24 (s : Int → Int) (x1 : Int) (x3 x2 : Int) : Int := (if (s ((414 + (8 * x3)) + 4)) ≤ 0 then x2 else (if x1 < (s (414 + (8 * x3))) then x2 else (if x2 = (-1) then x3 else (if (s ((414 + (8 * x2)) + 3)) ≤ (s ((414 + (8 * x3)) + 3)) then x2 else x3))))
def k24 (x2 : Int) : Int := x2
def r24 (s : Int → Int) (x1 : Int) : Int := k24 (itv (f24 s x1) (-1) 0 ((s 4).toNat))
theorem u24 {g : AG} {M : AM} {B : Nat} {s q : Int → Int} {b : Int} {x1 : Int} (hSB : ShState g B) (hDB : RepD M B s) (hV : Val b q s) (hQ : ValQ q) (h1 : -2147483648 ≤ x1 ∧ x1 < 2147483648) :
    Ok 0 24 0 [aR B, aI x1, aU, aU] [] g M (Rt (some (aI (r24 s x1))) g (fun M9 => M9 = M ∧ (-1 ≤ (r24 s x1) ∧ (r24 s x1) < s 4 ∧ (r24 s x1) < 16))) := by
  have ys3 : 0 ≤ s 3 ∧ s 3 ≤ 80 := V_3 hV
  have ys4 : 0 ≤ s 4 ∧ s 4 ≤ 16 := V_4 hV
  have yq0 : 0 ≤ q 0 ∧ q 0 ≤ 4 := Q_0 hQ
  have yq1 : 0 ≤ q 1 ∧ q 1 ≤ 6 := Q_1 hQ
  refine ok_iconst (pc' := 1) i24_0 rfl <| ok_istoren (pc' := 2) (ls' := [aR B, aI x1, aI (-1), aU]) i24_1 (bt rfl) rfl rfl <| ok_iconst (pc' := 3) i24_2 rfl <| ok_istoren (pc' := 4) (ls' := [aR B, aI x1, aI (-1), aI 0]) i24_3 (bt rfl) rfl rfl <| ?_
  refine ok_for (lo := 0) (n := (s 4).toNat) (f := (f24 s x1)) (a0 := (-1)) (fun x3 x2 ls M9 => M9 = M ∧ (-1 ≤ x2 ∧ x2 < x3 ∧ x3 ≤ s 4) ∧ ls = [aR B, aI x1, aI x2, aI x3]) ?_ ?_ _ _ ⟨rfl, by omega, rfl⟩
  · rintro x3 x2 ls M9 g1 g2 ⟨hM, hinv, rfl⟩ ih
    rw [hM]
    have g3 : x3 < (s 4) := by omega
    refine ok_iloadn (pc' := 5) i24_4 rfl rfl <| ok_aloadn (pc' := 6) i24_5 rfl rfl <| ok_getfi (v := (s 4)) (pc' := 9) i24_6 o24 gi5_39 (ShState_k0 hSB) (RepD_f4 hDB) rfl <| ?_
    refine ok_cge (pc1 := 67) (pc2 := 12) i24_9 (by omega) rfl rfl (fun h9 => by exfalso; omega) (fun h1 => ?_)
    refine ok_aloadn (pc' := 13) i24_12 rfl rfl <| ok_getfr (r := (B + 8)) (pc' := 16) i24_13 o24 gr5_20 (ShState_k0 hSB) (ShState_r5 hSB) rfl <| ok_iconst (pc' := 17) i24_16 rfl <| ok_aaload (r := (B + 13)) (pc' := 18) i24_17 (ShState_k8 hSB) (by decide) (ShState_l8 hSB) (by decide) (ShState_e8_4 hSB) rfl <| ok_iloadn (pc' := 19) i24_18 rfl rfl <| ?_
    have z45 : 0 ≤ s ((414 + (8 * x3)) + 4) ∧ s ((414 + (8 * x3)) + 4) ≤ 9 := V_o4 hV (i := x3) (by omega) (by omega)
    refine ok_iaload (v := (s ((414 + (8 * x3)) + 4))) (pc' := 20) i24_19 (ShState_k13 hSB) (by decide) (ShState_l13 hSB) (by omega) (RepD_13 hDB (by omega) (by omega)) rfl <| ?_
    refine ok_zle (pc1 := 61) (pc2 := 23) i24_20 (by omega) rfl rfl (fun h2 => ?_) (fun h2 => ?_)
    · refine ok_iinc (pc' := 64) (v := (x3 + 1)) (ls' := [aR B, aI x1, aI x2, aI (x3 + 1)]) i24_61 rfl rfl rfl rfl <| ok_goto (pc' := 4) i24_64 rfl <| ?_
      have e : f24 s x1 x3 x2 = x2 := by unfold f24; rw [if_pos h2]
      exact ih _ _ ⟨rfl, by first | omega | (rw [e]; omega), by rw [e]⟩
    · refine ok_aloadn (pc' := 24) i24_23 rfl rfl <| ok_getfr (r := (B + 8)) (pc' := 27) i24_24 o24 gr5_20 (ShState_k0 hSB) (ShState_r5 hSB) rfl <| ok_iconst (pc' := 28) i24_27 rfl <| ok_aaload (r := (B + 9)) (pc' := 29) i24_28 (ShState_k8 hSB) (by decide) (ShState_l8 hSB) (by decide) (ShState_e8_0 hSB) rfl <| ok_iloadn (pc' := 30) i24_29 rfl rfl <| ?_
      have z46 : 1 ≤ s (414 + (8 * x3)) ∧ s (414 + (8 * x3)) ≤ 200 := V_o0 hV (i := x3) (by omega) (by omega)
      refine ok_iaload (v := (s (414 + (8 * x3)))) (pc' := 31) i24_30 (ShState_k9 hSB) (by decide) (ShState_l9 hSB) (by omega) (RepD_9 hDB (by omega) (by omega)) rfl <| ok_iloadn (pc' := 32) i24_31 rfl rfl <| ?_
      refine ok_cgt (pc1 := 61) (pc2 := 35) i24_32 (by omega) rfl rfl (fun h3 => ?_) (fun h3 => ?_)
      · refine ok_iinc (pc' := 64) (v := (x3 + 1)) (ls' := [aR B, aI x1, aI x2, aI (x3 + 1)]) i24_61 rfl rfl rfl rfl <| ok_goto (pc' := 4) i24_64 rfl <| ?_
        have e : f24 s x1 x3 x2 = x2 := by unfold f24; rw [if_neg (by omega), if_pos h3]
        exact ih _ _ ⟨rfl, by first | omega | (rw [e]; omega), by rw [e]⟩
      · refine ok_iloadn (pc' := 36) i24_35 rfl rfl <| ok_iconst (pc' := 37) i24_36 rfl <| ?_
        refine ok_ceq (pc1 := 59) (pc2 := 40) i24_37 (by omega) rfl rfl (fun h4 => ?_) (fun h4 => ?_)
        · refine ok_iloadn (pc' := 60) i24_59 rfl rfl <| ok_istoren (pc' := 61) (ls' := [aR B, aI x1, aI x3, aI x3]) i24_60 (bt rfl) rfl rfl <| ok_iinc (pc' := 64) (v := (x3 + 1)) (ls' := [aR B, aI x1, aI x3, aI (x3 + 1)]) i24_61 rfl rfl rfl rfl <| ok_goto (pc' := 4) i24_64 rfl <| ?_
          have e : f24 s x1 x3 x2 = x3 := by unfold f24; rw [if_neg (by omega), if_neg (by omega), if_pos h4]
          exact ih _ _ ⟨rfl, by first | omega | (rw [e]; omega), by rw [e]⟩
        · refine ok_aloadn (pc' := 41) i24_40 rfl rfl <| ok_getfr (r := (B + 8)) (pc' := 44) i24_41 o24 gr5_20 (ShState_k0 hSB) (ShState_r5 hSB) rfl <| ok_iconst (pc' := 45) i24_44 rfl <| ok_aaload (r := (B + 12)) (pc' := 46) i24_45 (ShState_k8 hSB) (by decide) (ShState_l8 hSB) (by decide) (ShState_e8_3 hSB) rfl <| ok_iloadn (pc' := 47) i24_46 rfl rfl <| ?_
          have z47 : 0 ≤ s ((414 + (8 * x3)) + 3) ∧ s ((414 + (8 * x3)) + 3) ≤ 999 := V_o3 hV (i := x3) (by omega) (by omega)
          refine ok_iaload (v := (s ((414 + (8 * x3)) + 3))) (pc' := 48) i24_47 (ShState_k12 hSB) (by decide) (ShState_l12 hSB) (by omega) (RepD_12 hDB (by omega) (by omega)) rfl <| ok_aloadn (pc' := 49) i24_48 rfl rfl <| ok_getfr (r := (B + 8)) (pc' := 52) i24_49 o24 gr5_20 (ShState_k0 hSB) (ShState_r5 hSB) rfl <| ok_iconst (pc' := 53) i24_52 rfl <| ok_aaload (r := (B + 12)) (pc' := 54) i24_53 (ShState_k8 hSB) (by decide) (ShState_l8 hSB) (by decide) (ShState_e8_3 hSB) rfl <| ok_iloadn (pc' := 55) i24_54 rfl rfl <| ?_
          have z48 : 0 ≤ s ((414 + (8 * x2)) + 3) ∧ s ((414 + (8 * x2)) + 3) ≤ 999 := V_o3 hV (i := x2) (by omega) (by omega)
          refine ok_iaload (v := (s ((414 + (8 * x2)) + 3))) (pc' := 56) i24_55 (ShState_k12 hSB) (by decide) (ShState_l12 hSB) (by omega) (RepD_12 hDB (by omega) (by omega)) rfl <| ?_
          refine ok_cge (pc1 := 61) (pc2 := 59) i24_56 (by omega) rfl rfl (fun h5 => ?_) (fun h5 => ?_)
          · refine ok_iinc (pc' := 64) (v := (x3 + 1)) (ls' := [aR B, aI x1, aI x2, aI (x3 + 1)]) i24_61 rfl rfl rfl rfl <| ok_goto (pc' := 4) i24_64 rfl <| ?_
            have e : f24 s x1 x3 x2 = x2 := by unfold f24; rw [if_neg (by omega), if_neg (by omega), if_neg (by omega), if_pos h5]
            exact ih _ _ ⟨rfl, by first | omega | (rw [e]; omega), by rw [e]⟩
          · refine ok_iloadn (pc' := 60) i24_59 rfl rfl <| ok_istoren (pc' := 61) (ls' := [aR B, aI x1, aI x3, aI x3]) i24_60 (bt rfl) rfl rfl <| ok_iinc (pc' := 64) (v := (x3 + 1)) (ls' := [aR B, aI x1, aI x3, aI (x3 + 1)]) i24_61 rfl rfl rfl rfl <| ok_goto (pc' := 4) i24_64 rfl <| ?_
            have e : f24 s x1 x3 x2 = x3 := by unfold f24; rw [if_neg (by omega), if_neg (by omega), if_neg (by omega), if_neg (by omega)]
            exact ih _ _ ⟨rfl, by first | omega | (rw [e]; omega), by rw [e]⟩
  · rintro x3 x2 ls M9 g1 g2 ⟨hM, hinv, rfl⟩
    rw [hM]
    have g3 : x3 = (s 4) := by omega
    refine ok_iloadn (pc' := 5) i24_4 rfl rfl <| ok_aloadn (pc' := 6) i24_5 rfl rfl <| ok_getfi (v := (s 4)) (pc' := 9) i24_6 o24 gi5_39 (ShState_k0 hSB) (RepD_f4 hDB) rfl <| ?_
    refine ok_cge (pc1 := 67) (pc2 := 12) i24_9 (by omega) rfl rfl (fun h1 => ?_) (fun h9 => by exfalso; omega)
    refine ok_iloadn (pc' := 68) i24_67 rfl rfl <| ok_ireti i24_68 rt24 <| ?_
    have e2 : (r24 s x1) = x2 := by unfold r24; rw [g2]; unfold k24; rfl
    exact ⟨by rw [e2], rfl, rfl, by rw [e2]; omega⟩
theorem x24 {g : AG} {M : AM} {B : Nat} {s q : Int → Int} {b : Int} {x1 : Int} (hSB : ShState g B) (hDB : RepD M B s) (hV : Val b q s) (hQ : ValQ q) (h1 : -2147483648 ≤ x1 ∧ x1 < 2147483648) : -1 ≤ (r24 s x1) ∧ (r24 s x1) < s 4 ∧ (r24 s x1) < 16 := by
  obtain ⟨_, _, _, _, _, _, _, _, h⟩ := u24 (x1 := x1) hSB hDB hV hQ h1
  exact h
theorem t24 {g : AG} {M : AM} {B : Nat} {s q : Int → Int} {b : Int} {x1 : Int} (hSB : ShState g B) (hDB : RepD M B s) (hV : Val b q s) (hQ : ValQ q) (h1 : -2147483648 ≤ x1 ∧ x1 < 2147483648) :
    Ok 0 24 0 [aR B, aI x1, aU, aU] [] g M (Rt (some (aI (r24 s x1))) g (fun M9 => M9 = M)) := (u24 hSB hDB hV hQ h1).mono (fun o g1 M1 h => ⟨h.1, h.2.1, h.2.2.1⟩)
def f25 (s : Int → Int) (x1 : Int) (x3 x2 : Int) : Int := (if (s ((414 + (8 * x3)) + 4)) ≤ 0 then x2 else (if (s (414 + (8 * x3))) ≠ x1 then x2 else (if x2 = (-1) then x3 else (if (s ((414 + (8 * x2)) + 3)) ≤ (s ((414 + (8 * x3)) + 3)) then x2 else x3))))
def k25 (x2 : Int) : Int := x2
def r25 (s : Int → Int) (x1 : Int) : Int := k25 (itv (f25 s x1) (-1) 0 ((s 4).toNat))
theorem u25 {g : AG} {M : AM} {B : Nat} {s q : Int → Int} {b : Int} {x1 : Int} (hSB : ShState g B) (hDB : RepD M B s) (hV : Val b q s) (hQ : ValQ q) (h1 : -2147483648 ≤ x1 ∧ x1 < 2147483648) :
    Ok 0 25 0 [aR B, aI x1, aU, aU] [] g M (Rt (some (aI (r25 s x1))) g (fun M9 => M9 = M ∧ (-1 ≤ (r25 s x1) ∧ (r25 s x1) < s 4 ∧ (r25 s x1) < 16))) := by
  have ys3 : 0 ≤ s 3 ∧ s 3 ≤ 80 := V_3 hV
  have ys4 : 0 ≤ s 4 ∧ s 4 ≤ 16 := V_4 hV
  have yq0 : 0 ≤ q 0 ∧ q 0 ≤ 4 := Q_0 hQ
  have yq1 : 0 ≤ q 1 ∧ q 1 ≤ 6 := Q_1 hQ
  refine ok_iconst (pc' := 1) i25_0 rfl <| ok_istoren (pc' := 2) (ls' := [aR B, aI x1, aI (-1), aU]) i25_1 (bt rfl) rfl rfl <| ok_iconst (pc' := 3) i25_2 rfl <| ok_istoren (pc' := 4) (ls' := [aR B, aI x1, aI (-1), aI 0]) i25_3 (bt rfl) rfl rfl <| ?_
  refine ok_for (lo := 0) (n := (s 4).toNat) (f := (f25 s x1)) (a0 := (-1)) (fun x3 x2 ls M9 => M9 = M ∧ (-1 ≤ x2 ∧ x2 < x3 ∧ x3 ≤ s 4) ∧ ls = [aR B, aI x1, aI x2, aI x3]) ?_ ?_ _ _ ⟨rfl, by omega, rfl⟩
  · rintro x3 x2 ls M9 g1 g2 ⟨hM, hinv, rfl⟩ ih
    rw [hM]
    have g3 : x3 < (s 4) := by omega
    refine ok_iloadn (pc' := 5) i25_4 rfl rfl <| ok_aloadn (pc' := 6) i25_5 rfl rfl <| ok_getfi (v := (s 4)) (pc' := 9) i25_6 o25 gi5_39 (ShState_k0 hSB) (RepD_f4 hDB) rfl <| ?_
    refine ok_cge (pc1 := 67) (pc2 := 12) i25_9 (by omega) rfl rfl (fun h9 => by exfalso; omega) (fun h1 => ?_)
    refine ok_aloadn (pc' := 13) i25_12 rfl rfl <| ok_getfr (r := (B + 8)) (pc' := 16) i25_13 o25 gr5_20 (ShState_k0 hSB) (ShState_r5 hSB) rfl <| ok_iconst (pc' := 17) i25_16 rfl <| ok_aaload (r := (B + 13)) (pc' := 18) i25_17 (ShState_k8 hSB) (by decide) (ShState_l8 hSB) (by decide) (ShState_e8_4 hSB) rfl <| ok_iloadn (pc' := 19) i25_18 rfl rfl <| ?_
    have z45 : 0 ≤ s ((414 + (8 * x3)) + 4) ∧ s ((414 + (8 * x3)) + 4) ≤ 9 := V_o4 hV (i := x3) (by omega) (by omega)
    refine ok_iaload (v := (s ((414 + (8 * x3)) + 4))) (pc' := 20) i25_19 (ShState_k13 hSB) (by decide) (ShState_l13 hSB) (by omega) (RepD_13 hDB (by omega) (by omega)) rfl <| ?_
    refine ok_zle (pc1 := 61) (pc2 := 23) i25_20 (by omega) rfl rfl (fun h2 => ?_) (fun h2 => ?_)
    · refine ok_iinc (pc' := 64) (v := (x3 + 1)) (ls' := [aR B, aI x1, aI x2, aI (x3 + 1)]) i25_61 rfl rfl rfl rfl <| ok_goto (pc' := 4) i25_64 rfl <| ?_
      have e : f25 s x1 x3 x2 = x2 := by unfold f25; rw [if_pos h2]
      exact ih _ _ ⟨rfl, by first | omega | (rw [e]; omega), by rw [e]⟩
    · refine ok_aloadn (pc' := 24) i25_23 rfl rfl <| ok_getfr (r := (B + 8)) (pc' := 27) i25_24 o25 gr5_20 (ShState_k0 hSB) (ShState_r5 hSB) rfl <| ok_iconst (pc' := 28) i25_27 rfl <| ok_aaload (r := (B + 9)) (pc' := 29) i25_28 (ShState_k8 hSB) (by decide) (ShState_l8 hSB) (by decide) (ShState_e8_0 hSB) rfl <| ok_iloadn (pc' := 30) i25_29 rfl rfl <| ?_
      have z46 : 1 ≤ s (414 + (8 * x3)) ∧ s (414 + (8 * x3)) ≤ 200 := V_o0 hV (i := x3) (by omega) (by omega)
      refine ok_iaload (v := (s (414 + (8 * x3)))) (pc' := 31) i25_30 (ShState_k9 hSB) (by decide) (ShState_l9 hSB) (by omega) (RepD_9 hDB (by omega) (by omega)) rfl <| ok_iloadn (pc' := 32) i25_31 rfl rfl <| ?_
      refine ok_cne (pc1 := 61) (pc2 := 35) i25_32 (by omega) rfl rfl (fun h3 => ?_) (fun h3 => ?_)
      · refine ok_iinc (pc' := 64) (v := (x3 + 1)) (ls' := [aR B, aI x1, aI x2, aI (x3 + 1)]) i25_61 rfl rfl rfl rfl <| ok_goto (pc' := 4) i25_64 rfl <| ?_
        have e : f25 s x1 x3 x2 = x2 := by unfold f25; rw [if_neg (by omega), if_pos h3]
        exact ih _ _ ⟨rfl, by first | omega | (rw [e]; omega), by rw [e]⟩
      · refine ok_iloadn (pc' := 36) i25_35 rfl rfl <| ok_iconst (pc' := 37) i25_36 rfl <| ?_
        refine ok_ceq (pc1 := 59) (pc2 := 40) i25_37 (by omega) rfl rfl (fun h4 => ?_) (fun h4 => ?_)
        · refine ok_iloadn (pc' := 60) i25_59 rfl rfl <| ok_istoren (pc' := 61) (ls' := [aR B, aI x1, aI x3, aI x3]) i25_60 (bt rfl) rfl rfl <| ok_iinc (pc' := 64) (v := (x3 + 1)) (ls' := [aR B, aI x1, aI x3, aI (x3 + 1)]) i25_61 rfl rfl rfl rfl <| ok_goto (pc' := 4) i25_64 rfl <| ?_
          have e : f25 s x1 x3 x2 = x3 := by unfold f25; rw [if_neg (by omega), if_neg (by omega), if_pos h4]
          exact ih _ _ ⟨rfl, by first | omega | (rw [e]; omega), by rw [e]⟩
        · refine ok_aloadn (pc' := 41) i25_40 rfl rfl <| ok_getfr (r := (B + 8)) (pc' := 44) i25_41 o25 gr5_20 (ShState_k0 hSB) (ShState_r5 hSB) rfl <| ok_iconst (pc' := 45) i25_44 rfl <| ok_aaload (r := (B + 12)) (pc' := 46) i25_45 (ShState_k8 hSB) (by decide) (ShState_l8 hSB) (by decide) (ShState_e8_3 hSB) rfl <| ok_iloadn (pc' := 47) i25_46 rfl rfl <| ?_
          have z47 : 0 ≤ s ((414 + (8 * x3)) + 3) ∧ s ((414 + (8 * x3)) + 3) ≤ 999 := V_o3 hV (i := x3) (by omega) (by omega)
          refine ok_iaload (v := (s ((414 + (8 * x3)) + 3))) (pc' := 48) i25_47 (ShState_k12 hSB) (by decide) (ShState_l12 hSB) (by omega) (RepD_12 hDB (by omega) (by omega)) rfl <| ok_aloadn (pc' := 49) i25_48 rfl rfl <| ok_getfr (r := (B + 8)) (pc' := 52) i25_49 o25 gr5_20 (ShState_k0 hSB) (ShState_r5 hSB) rfl <| ok_iconst (pc' := 53) i25_52 rfl <| ok_aaload (r := (B + 12)) (pc' := 54) i25_53 (ShState_k8 hSB) (by decide) (ShState_l8 hSB) (by decide) (ShState_e8_3 hSB) rfl <| ok_iloadn (pc' := 55) i25_54 rfl rfl <| ?_
          have z48 : 0 ≤ s ((414 + (8 * x2)) + 3) ∧ s ((414 + (8 * x2)) + 3) ≤ 999 := V_o3 hV (i := x2) (by omega) (by omega)
          refine ok_iaload (v := (s ((414 + (8 * x2)) + 3))) (pc' := 56) i25_55 (ShState_k12 hSB) (by decide) (ShState_l12 hSB) (by omega) (RepD_12 hDB (by omega) (by omega)) rfl <| ?_
          refine ok_cge (pc1 := 61) (pc2 := 59) i25_56 (by omega) rfl rfl (fun h5 => ?_) (fun h5 => ?_)
          · refine ok_iinc (pc' := 64) (v := (x3 + 1)) (ls' := [aR B, aI x1, aI x2, aI (x3 + 1)]) i25_61 rfl rfl rfl rfl <| ok_goto (pc' := 4) i25_64 rfl <| ?_
            have e : f25 s x1 x3 x2 = x2 := by unfold f25; rw [if_neg (by omega), if_neg (by omega), if_neg (by omega), if_pos h5]
            exact ih _ _ ⟨rfl, by first | omega | (rw [e]; omega), by rw [e]⟩
          · refine ok_iloadn (pc' := 60) i25_59 rfl rfl <| ok_istoren (pc' := 61) (ls' := [aR B, aI x1, aI x3, aI x3]) i25_60 (bt rfl) rfl rfl <| ok_iinc (pc' := 64) (v := (x3 + 1)) (ls' := [aR B, aI x1, aI x3, aI (x3 + 1)]) i25_61 rfl rfl rfl rfl <| ok_goto (pc' := 4) i25_64 rfl <| ?_
            have e : f25 s x1 x3 x2 = x3 := by unfold f25; rw [if_neg (by omega), if_neg (by omega), if_neg (by omega), if_neg (by omega)]
            exact ih _ _ ⟨rfl, by first | omega | (rw [e]; omega), by rw [e]⟩
  · rintro x3 x2 ls M9 g1 g2 ⟨hM, hinv, rfl⟩
    rw [hM]
    have g3 : x3 = (s 4) := by omega
    refine ok_iloadn (pc' := 5) i25_4 rfl rfl <| ok_aloadn (pc' := 6) i25_5 rfl rfl <| ok_getfi (v := (s 4)) (pc' := 9) i25_6 o25 gi5_39 (ShState_k0 hSB) (RepD_f4 hDB) rfl <| ?_
    refine ok_cge (pc1 := 67) (pc2 := 12) i25_9 (by omega) rfl rfl (fun h1 => ?_) (fun h9 => by exfalso; omega)
    refine ok_iloadn (pc' := 68) i25_67 rfl rfl <| ok_ireti i25_68 rt25 <| ?_
    have e2 : (r25 s x1) = x2 := by unfold r25; rw [g2]; unfold k25; rfl
    exact ⟨by rw [e2], rfl, rfl, by rw [e2]; omega⟩
theorem x25 {g : AG} {M : AM} {B : Nat} {s q : Int → Int} {b : Int} {x1 : Int} (hSB : ShState g B) (hDB : RepD M B s) (hV : Val b q s) (hQ : ValQ q) (h1 : -2147483648 ≤ x1 ∧ x1 < 2147483648) : -1 ≤ (r25 s x1) ∧ (r25 s x1) < s 4 ∧ (r25 s x1) < 16 := by
  obtain ⟨_, _, _, _, _, _, _, _, h⟩ := u25 (x1 := x1) hSB hDB hV hQ h1
  exact h
theorem t25 {g : AG} {M : AM} {B : Nat} {s q : Int → Int} {b : Int} {x1 : Int} (hSB : ShState g B) (hDB : RepD M B s) (hV : Val b q s) (hQ : ValQ q) (h1 : -2147483648 ≤ x1 ∧ x1 < 2147483648) :
    Ok 0 25 0 [aR B, aI x1, aU, aU] [] g M (Rt (some (aI (r25 s x1))) g (fun M9 => M9 = M)) := (u25 hSB hDB hV hQ h1).mono (fun o g1 M1 h => ⟨h.1, h.2.1, h.2.2.1⟩)
def f27 (s : Int → Int) (x1 : Int) (x3 x2 : Int) : Int := (if (s ((414 + (8 * x3)) + 4)) ≤ 0 then x2 else (if x1 < (s (414 + (8 * x3))) then x2 else (if (s (414 + (8 * x3))) ≤ x2 then x2 else (s (414 + (8 * x3))))))
def k27 (x2 : Int) : Int := x2
def r27 (s : Int → Int) (x1 : Int) : Int := k27 (itv (f27 s x1) (-1) 0 ((s 4).toNat))
theorem u27 {g : AG} {M : AM} {B : Nat} {s q : Int → Int} {b : Int} {x1 : Int} (hSB : ShState g B) (hDB : RepD M B s) (hV : Val b q s) (hQ : ValQ q) (h1 : -2147483648 ≤ x1 ∧ x1 < 2147483648) :
    Ok 0 27 0 [aR B, aI x1, aU, aU, aU] [] g M (Rt (some (aI (r27 s x1))) g (fun M9 => M9 = M ∧ (-1 ≤ (r27 s x1) ∧ (r27 s x1) ≤ 200))) := by
  have ys3 : 0 ≤ s 3 ∧ s 3 ≤ 80 := V_3 hV
  have ys4 : 0 ≤ s 4 ∧ s 4 ≤ 16 := V_4 hV
  have yq0 : 0 ≤ q 0 ∧ q 0 ≤ 4 := Q_0 hQ
  have yq1 : 0 ≤ q 1 ∧ q 1 ≤ 6 := Q_1 hQ
  refine ok_iconst (pc' := 1) i27_0 rfl <| ok_istoren (pc' := 2) (ls' := [aR B, aI x1, aI (-1), aU, aU]) i27_1 (bt rfl) rfl rfl <| ok_iconst (pc' := 3) i27_2 rfl <| ok_istoren (pc' := 4) (ls' := [aR B, aI x1, aI (-1), aI 0, aU]) i27_3 (bt rfl) rfl rfl <| ?_
  refine ok_for (lo := 0) (n := (s 4).toNat) (f := (f27 s x1)) (a0 := (-1)) (fun x3 x2 ls M9 => M9 = M ∧ (-1 ≤ x2 ∧ x2 ≤ 200 ∧ x3 ≤ s 4) ∧ ∃ w4 : AV, am_cat w4 = 1 ∧ ls = [aR B, aI x1, aI x2, aI x3, w4]) ?_ ?_ _ _ ⟨rfl, by omega, aU, rfl, rfl⟩
  · rintro x3 x2 ls M9 g1 g2 ⟨hM, hinv, w4, hw4, rfl⟩ ih
    rw [hM]
    have g3 : x3 < (s 4) := by omega
    refine ok_iloadn (pc' := 5) i27_4 rfl rfl <| ok_aloadn (pc' := 6) i27_5 rfl rfl <| ok_getfi (v := (s 4)) (pc' := 9) i27_6 o27 gi5_39 (ShState_k0 hSB) (RepD_f4 hDB) rfl <| ?_
    refine ok_cge (pc1 := 54) (pc2 := 12) i27_9 (by omega) rfl rfl (fun h9 => by exfalso; omega) (fun h1 => ?_)
    refine ok_aloadn (pc' := 13) i27_12 rfl rfl <| ok_getfr (r := (B + 8)) (pc' := 16) i27_13 o27 gr5_20 (ShState_k0 hSB) (ShState_r5 hSB) rfl <| ok_iconst (pc' := 17) i27_16 rfl <| ok_aaload (r := (B + 9)) (pc' := 18) i27_17 (ShState_k8 hSB) (by decide) (ShState_l8 hSB) (by decide) (ShState_e8_0 hSB) rfl <| ok_iloadn (pc' := 19) i27_18 rfl rfl <| ?_
    have z45 : 1 ≤ s (414 + (8 * x3)) ∧ s (414 + (8 * x3)) ≤ 200 := V_o0 hV (i := x3) (by omega) (by omega)
    refine ok_iaload (v := (s (414 + (8 * x3)))) (pc' := 20) i27_19 (ShState_k9 hSB) (by decide) (ShState_l9 hSB) (by omega) (RepD_9 hDB (by omega) (by omega)) rfl <| ok_istore (pc' := 22) (ls' := [aR B, aI x1, aI x2, aI x3, aI (s (414 + (8 * x3)))]) i27_20 (bt rfl) rfl rfl <| ok_aloadn (pc' := 23) i27_22 rfl rfl <| ok_getfr (r := (B + 8)) (pc' := 26) i27_23 o27 gr5_20 (ShState_k0 hSB) (ShState_r5 hSB) rfl <| ok_iconst (pc' := 27) i27_26 rfl <| ok_aaload (r := (B + 13)) (pc' := 28) i27_27 (ShState_k8 hSB) (by decide) (ShState_l8 hSB) (by decide) (ShState_e8_4 hSB) rfl <| ok_iloadn (pc' := 29) i27_28 rfl rfl <| ?_
    have z46 : 0 ≤ s ((414 + (8 * x3)) + 4) ∧ s ((414 + (8 * x3)) + 4) ≤ 9 := V_o4 hV (i := x3) (by omega) (by omega)
    refine ok_iaload (v := (s ((414 + (8 * x3)) + 4))) (pc' := 30) i27_29 (ShState_k13 hSB) (by decide) (ShState_l13 hSB) (by omega) (RepD_13 hDB (by omega) (by omega)) rfl <| ?_
    refine ok_zle (pc1 := 48) (pc2 := 33) i27_30 (by omega) rfl rfl (fun h2 => ?_) (fun h2 => ?_)
    · refine ok_iinc (pc' := 51) (v := (x3 + 1)) (ls' := [aR B, aI x1, aI x2, aI (x3 + 1), aI (s (414 + (8 * x3)))]) i27_48 rfl rfl rfl rfl <| ok_goto (pc' := 4) i27_51 rfl <| ?_
      have e : f27 s x1 x3 x2 = x2 := by unfold f27; rw [if_pos h2]
      exact ih _ _ ⟨rfl, by first | omega | (rw [e]; omega), by rw [e]; exact ⟨_, rfl, rfl⟩⟩
    · refine ok_iload (pc' := 35) i27_33 rfl rfl <| ok_iloadn (pc' := 36) i27_35 rfl rfl <| ?_
      refine ok_cgt (pc1 := 48) (pc2 := 39) i27_36 (by omega) rfl rfl (fun h3 => ?_) (fun h3 => ?_)
      · refine ok_iinc (pc' := 51) (v := (x3 + 1)) (ls' := [aR B, aI x1, aI x2, aI (x3 + 1), aI (s (414 + (8 * x3)))]) i27_48 rfl rfl rfl rfl <| ok_goto (pc' := 4) i27_51 rfl <| ?_
        have e : f27 s x1 x3 x2 = x2 := by unfold f27; rw [if_neg (by omega), if_pos h3]
        exact ih _ _ ⟨rfl, by first | omega | (rw [e]; omega), by rw [e]; exact ⟨_, rfl, rfl⟩⟩
      · refine ok_iload (pc' := 41) i27_39 rfl rfl <| ok_iloadn (pc' := 42) i27_41 rfl rfl <| ?_
        refine ok_cle (pc1 := 48) (pc2 := 45) i27_42 (by omega) rfl rfl (fun h4 => ?_) (fun h4 => ?_)
        · refine ok_iinc (pc' := 51) (v := (x3 + 1)) (ls' := [aR B, aI x1, aI x2, aI (x3 + 1), aI (s (414 + (8 * x3)))]) i27_48 rfl rfl rfl rfl <| ok_goto (pc' := 4) i27_51 rfl <| ?_
          have e : f27 s x1 x3 x2 = x2 := by unfold f27; rw [if_neg (by omega), if_neg (by omega), if_pos h4]
          exact ih _ _ ⟨rfl, by first | omega | (rw [e]; omega), by rw [e]; exact ⟨_, rfl, rfl⟩⟩
        · refine ok_iload (pc' := 47) i27_45 rfl rfl <| ok_istoren (pc' := 48) (ls' := [aR B, aI x1, aI (s (414 + (8 * x3))), aI x3, aI (s (414 + (8 * x3)))]) i27_47 (bt rfl) rfl rfl <| ok_iinc (pc' := 51) (v := (x3 + 1)) (ls' := [aR B, aI x1, aI (s (414 + (8 * x3))), aI (x3 + 1), aI (s (414 + (8 * x3)))]) i27_48 rfl rfl rfl rfl <| ok_goto (pc' := 4) i27_51 rfl <| ?_
          have e : f27 s x1 x3 x2 = (s (414 + (8 * x3))) := by unfold f27; rw [if_neg (by omega), if_neg (by omega), if_neg (by omega)]
          exact ih _ _ ⟨rfl, by first | omega | (rw [e]; omega), by rw [e]; exact ⟨_, rfl, rfl⟩⟩
  · rintro x3 x2 ls M9 g1 g2 ⟨hM, hinv, w4, hw4, rfl⟩
    rw [hM]
    have g3 : x3 = (s 4) := by omega
    refine ok_iloadn (pc' := 5) i27_4 rfl rfl <| ok_aloadn (pc' := 6) i27_5 rfl rfl <| ok_getfi (v := (s 4)) (pc' := 9) i27_6 o27 gi5_39 (ShState_k0 hSB) (RepD_f4 hDB) rfl <| ?_
    refine ok_cge (pc1 := 54) (pc2 := 12) i27_9 (by omega) rfl rfl (fun h1 => ?_) (fun h9 => by exfalso; omega)
    refine ok_iloadn (pc' := 55) i27_54 rfl rfl <| ok_ireti i27_55 rt27 <| ?_
    have e2 : (r27 s x1) = x2 := by unfold r27; rw [g2]; unfold k27; rfl
    exact ⟨by rw [e2], rfl, rfl, by rw [e2]; omega⟩
theorem x27 {g : AG} {M : AM} {B : Nat} {s q : Int → Int} {b : Int} {x1 : Int} (hSB : ShState g B) (hDB : RepD M B s) (hV : Val b q s) (hQ : ValQ q) (h1 : -2147483648 ≤ x1 ∧ x1 < 2147483648) : -1 ≤ (r27 s x1) ∧ (r27 s x1) ≤ 200 := by
  obtain ⟨_, _, _, _, _, _, _, _, h⟩ := u27 (x1 := x1) hSB hDB hV hQ h1
  exact h
theorem t27 {g : AG} {M : AM} {B : Nat} {s q : Int → Int} {b : Int} {x1 : Int} (hSB : ShState g B) (hDB : RepD M B s) (hV : Val b q s) (hQ : ValQ q) (h1 : -2147483648 ≤ x1 ∧ x1 < 2147483648) :
    Ok 0 27 0 [aR B, aI x1, aU, aU, aU] [] g M (Rt (some (aI (r27 s x1))) g (fun M9 => M9 = M)) := (u27 hSB hDB hV hQ h1).mono (fun o g1 M1 h => ⟨h.1, h.2.1, h.2.2.1⟩)
def f18 (s : Int → Int) (x2 x1 : Int) : Int := (if (s (174 + x2)) ≠ 0 then x1 else (x1 + 1))
def k18 (x1 : Int) : Int := x1
def r18 (s : Int → Int) : Int := k18 (itv (f18 s) 0 0 ((s 3).toNat))
theorem t18 {g : AG} {M : AM} {B : Nat} {s q : Int → Int} {b : Int} (hSB : ShState g B) (hRB : RepS M B s) (hV : Val b q s) (hQ : ValQ q) :
    Ok 0 18 0 [aR B, aU, aU] [] g M (Rt (some (aI (r18 s))) g (fun M9 => M9 = M)) := by
  have ys3 : 0 ≤ s 3 ∧ s 3 ≤ 80 := V_3 hV
  have ys4 : 0 ≤ s 4 ∧ s 4 ≤ 16 := V_4 hV
  have yq0 : 0 ≤ q 0 ∧ q 0 ≤ 4 := Q_0 hQ
  have yq1 : 0 ≤ q 1 ∧ q 1 ≤ 6 := Q_1 hQ
  refine ok_iconst (pc' := 1) i18_0 rfl <| ok_istoren (pc' := 2) (ls' := [aR B, aI 0, aU]) i18_1 (bt rfl) rfl rfl <| ok_iconst (pc' := 3) i18_2 rfl <| ok_istoren (pc' := 4) (ls' := [aR B, aI 0, aI 0]) i18_3 (bt rfl) rfl rfl <| ?_
  refine ok_for (lo := 0) (n := (s 3).toNat) (f := (f18 s)) (a0 := 0) (fun x2 x1 ls M9 => M9 = M ∧ (-1 ≤ x2) ∧ ls = [aR B, aI x1, aI x2]) ?_ ?_ _ _ ⟨rfl, by omega, rfl⟩
  · rintro x2 x1 ls M9 g1 g2 ⟨hM, hinv, rfl⟩ ih
    rw [hM]
    have g3 : x2 < (s 3) := by omega
    refine ok_iloadn (pc' := 5) i18_4 rfl rfl <| ok_aloadn (pc' := 6) i18_5 rfl rfl <| ok_getfi (v := (s 3)) (pc' := 9) i18_6 o18 gi5_36 (ShState_k0 hSB) (RepS_f2 hRB) rfl <| ?_
    refine ok_cge (pc1 := 32) (pc2 := 12) i18_9 (by omega) rfl rfl (fun h9 => by exfalso; omega) (fun h1 => ?_)
    refine ok_aloadn (pc' := 13) i18_12 rfl rfl <| ok_getfr (r := (B + 2)) (pc' := 16) i18_13 o18 gr5_17 (ShState_k0 hSB) (ShState_r3 hSB) rfl <| ok_iconst (pc' := 17) i18_16 rfl <| ok_aaload (r := (B + 5)) (pc' := 18) i18_17 (ShState_k2 hSB) (by decide) (ShState_l2 hSB) (by decide) (ShState_e2_2 hSB) rfl <| ok_iloadn (pc' := 19) i18_18 rfl rfl <| ?_
    have z45 : 0 ≤ s (174 + x2) ∧ s (174 + x2) ≤ 2 := V_d2 hV (i := x2) (by omega) (by omega)
    refine ok_iaload (v := (s (174 + x2))) (pc' := 20) i18_19 (ShState_k5 hSB) (by decide) (ShState_l5 hSB) (by omega) (RepS_5 hRB (by omega) (by omega)) rfl <| ?_
    refine ok_zne (pc1 := 26) (pc2 := 23) i18_20 (by omega) rfl rfl (fun h2 => ?_) (fun h2 => ?_)
    · refine ok_iinc (pc' := 29) (v := (x2 + 1)) (ls' := [aR B, aI x1, aI (x2 + 1)]) i18_26 rfl rfl rfl rfl <| ok_goto (pc' := 4) i18_29 rfl <| ?_
      have e : f18 s x2 x1 = x1 := by unfold f18; rw [if_pos h2]
      exact ih _ _ ⟨rfl, by first | omega | (rw [e]; omega), by rw [e]⟩
    · refine ok_iinc (pc' := 26) (v := (x1 + 1)) (ls' := [aR B, aI (x1 + 1), aI x2]) i18_23 rfl rfl rfl rfl <| ok_iinc (pc' := 29) (v := (x2 + 1)) (ls' := [aR B, aI (x1 + 1), aI (x2 + 1)]) i18_26 rfl rfl rfl rfl <| ok_goto (pc' := 4) i18_29 rfl <| ?_
      have e : f18 s x2 x1 = (x1 + 1) := by unfold f18; rw [if_neg (by omega)]
      exact ih _ _ ⟨rfl, by first | omega | (rw [e]; omega), by rw [e]⟩
  · rintro x2 x1 ls M9 g1 g2 ⟨hM, hinv, rfl⟩
    rw [hM]
    have g3 : x2 = (s 3) := by omega
    refine ok_iloadn (pc' := 5) i18_4 rfl rfl <| ok_aloadn (pc' := 6) i18_5 rfl rfl <| ok_getfi (v := (s 3)) (pc' := 9) i18_6 o18 gi5_36 (ShState_k0 hSB) (RepS_f2 hRB) rfl <| ?_
    refine ok_cge (pc1 := 32) (pc2 := 12) i18_9 (by omega) rfl rfl (fun h1 => ?_) (fun h9 => by exfalso; omega)
    refine ok_iloadn (pc' := 33) i18_32 rfl rfl <| ok_ireti i18_33 rt18 <| ?_
    have e2 : (r18 s) = x1 := by unfold r18; rw [g2]; unfold k18; rfl
    exact ⟨by rw [e2], rfl, rfl⟩
def f23 (s : Int → Int) (x2 x1 : Int) : Int := (if (s (94 + x2)) ≤ 0 then x1 else (if x1 = (-1) then x2 else (if (s (94 + x2)) ≤ (s (94 + x1)) then x1 else x2)))
def k23 (x1 : Int) : Int := x1
def r23 (s : Int → Int) : Int := k23 (itv (f23 s) (-1) 0 ((s 3).toNat))
theorem u23 {g : AG} {M : AM} {B : Nat} {s q : Int → Int} {b : Int} (hSB : ShState g B) (hRB : RepS M B s) (hV : Val b q s) (hQ : ValQ q) :
    Ok 0 23 0 [aR B, aU, aU, aU] [] g M (Rt (some (aI (r23 s))) g (fun M9 => M9 = M ∧ (-1 ≤ (r23 s) ∧ (r23 s) < s 3 ∧ (r23 s) < 80))) := by
  have ys3 : 0 ≤ s 3 ∧ s 3 ≤ 80 := V_3 hV
  have ys4 : 0 ≤ s 4 ∧ s 4 ≤ 16 := V_4 hV
  have yq0 : 0 ≤ q 0 ∧ q 0 ≤ 4 := Q_0 hQ
  have yq1 : 0 ≤ q 1 ∧ q 1 ≤ 6 := Q_1 hQ
  refine ok_iconst (pc' := 1) i23_0 rfl <| ok_istoren (pc' := 2) (ls' := [aR B, aI (-1), aU, aU]) i23_1 (bt rfl) rfl rfl <| ok_iconst (pc' := 3) i23_2 rfl <| ok_istoren (pc' := 4) (ls' := [aR B, aI (-1), aI 0, aU]) i23_3 (bt rfl) rfl rfl <| ?_
  refine ok_for (lo := 0) (n := (s 3).toNat) (f := (f23 s)) (a0 := (-1)) (fun x2 x1 ls M9 => M9 = M ∧ (-1 ≤ x1 ∧ x1 < x2 ∧ x2 ≤ s 3) ∧ ∃ w3 : AV, am_cat w3 = 1 ∧ ls = [aR B, aI x1, aI x2, w3]) ?_ ?_ _ _ ⟨rfl, by omega, aU, rfl, rfl⟩
  · rintro x2 x1 ls M9 g1 g2 ⟨hM, hinv, w3, hw3, rfl⟩ ih
    rw [hM]
    have g3 : x2 < (s 3) := by omega
    refine ok_iloadn (pc' := 5) i23_4 rfl rfl <| ok_aloadn (pc' := 6) i23_5 rfl rfl <| ok_getfi (v := (s 3)) (pc' := 9) i23_6 o23 gi5_36 (ShState_k0 hSB) (RepS_f2 hRB) rfl <| ?_
    refine ok_cge (pc1 := 50) (pc2 := 12) i23_9 (by omega) rfl rfl (fun h9 => by exfalso; omega) (fun h1 => ?_)
    refine ok_aloadn (pc' := 13) i23_12 rfl rfl <| ok_getfr (r := (B + 2)) (pc' := 16) i23_13 o23 gr5_17 (ShState_k0 hSB) (ShState_r3 hSB) rfl <| ok_iconst (pc' := 17) i23_16 rfl <| ok_aaload (r := (B + 4)) (pc' := 18) i23_17 (ShState_k2 hSB) (by decide) (ShState_l2 hSB) (by decide) (ShState_e2_1 hSB) rfl <| ok_iloadn (pc' := 19) i23_18 rfl rfl <| ?_
    have z45 : 0 ≤ s (94 + x2) ∧ s (94 + x2) ≤ 200 := V_d1 hV (i := x2) (by omega) (by omega)
    refine ok_iaload (v := (s (94 + x2))) (pc' := 20) i23_19 (ShState_k4 hSB) (by decide) (ShState_l4 hSB) (by omega) (RepS_4 hRB (by omega) (by omega)) rfl <| ok_istoren (pc' := 21) (ls' := [aR B, aI x1, aI x2, aI (s (94 + x2))]) i23_20 (bt rfl) rfl rfl <| ok_iloadn (pc' := 22) i23_21 rfl rfl <| ?_
    refine ok_zle (pc1 := 44) (pc2 := 25) i23_22 (by omega) rfl rfl (fun h2 => ?_) (fun h2 => ?_)
    · refine ok_iinc (pc' := 47) (v := (x2 + 1)) (ls' := [aR B, aI x1, aI (x2 + 1), aI (s (94 + x2))]) i23_44 rfl rfl rfl rfl <| ok_goto (pc' := 4) i23_47 rfl <| ?_
      have e : f23 s x2 x1 = x1 := by unfold f23; rw [if_pos h2]
      exact ih _ _ ⟨rfl, by first | omega | (rw [e]; omega), by rw [e]; exact ⟨_, rfl, rfl⟩⟩
    · refine ok_iloadn (pc' := 26) i23_25 rfl rfl <| ok_iconst (pc' := 27) i23_26 rfl <| ?_
      refine ok_ceq (pc1 := 42) (pc2 := 30) i23_27 (by omega) rfl rfl (fun h3 => ?_) (fun h3 => ?_)
      · refine ok_iloadn (pc' := 43) i23_42 rfl rfl <| ok_istoren (pc' := 44) (ls' := [aR B, aI x2, aI x2, aI (s (94 + x2))]) i23_43 (bt rfl) rfl rfl <| ok_iinc (pc' := 47) (v := (x2 + 1)) (ls' := [aR B, aI x2, aI (x2 + 1), aI (s (94 + x2))]) i23_44 rfl rfl rfl rfl <| ok_goto (pc' := 4) i23_47 rfl <| ?_
        have e : f23 s x2 x1 = x2 := by unfold f23; rw [if_neg (by omega), if_pos h3]
        exact ih _ _ ⟨rfl, by first | omega | (rw [e]; omega), by rw [e]; exact ⟨_, rfl, rfl⟩⟩
      · refine ok_iloadn (pc' := 31) i23_30 rfl rfl <| ok_aloadn (pc' := 32) i23_31 rfl rfl <| ok_getfr (r := (B + 2)) (pc' := 35) i23_32 o23 gr5_17 (ShState_k0 hSB) (ShState_r3 hSB) rfl <| ok_iconst (pc' := 36) i23_35 rfl <| ok_aaload (r := (B + 4)) (pc' := 37) i23_36 (ShState_k2 hSB) (by decide) (ShState_l2 hSB) (by decide) (ShState_e2_1 hSB) rfl <| ok_iloadn (pc' := 38) i23_37 rfl rfl <| ?_
        have z46 : 0 ≤ s (94 + x1) ∧ s (94 + x1) ≤ 200 := V_d1 hV (i := x1) (by omega) (by omega)
        refine ok_iaload (v := (s (94 + x1))) (pc' := 39) i23_38 (ShState_k4 hSB) (by decide) (ShState_l4 hSB) (by omega) (RepS_4 hRB (by omega) (by omega)) rfl <| ?_
        refine ok_cle (pc1 := 44) (pc2 := 42) i23_39 (by omega) rfl rfl (fun h4 => ?_) (fun h4 => ?_)
        · refine ok_iinc (pc' := 47) (v := (x2 + 1)) (ls' := [aR B, aI x1, aI (x2 + 1), aI (s (94 + x2))]) i23_44 rfl rfl rfl rfl <| ok_goto (pc' := 4) i23_47 rfl <| ?_
          have e : f23 s x2 x1 = x1 := by unfold f23; rw [if_neg (by omega), if_neg (by omega), if_pos h4]
          exact ih _ _ ⟨rfl, by first | omega | (rw [e]; omega), by rw [e]; exact ⟨_, rfl, rfl⟩⟩
        · refine ok_iloadn (pc' := 43) i23_42 rfl rfl <| ok_istoren (pc' := 44) (ls' := [aR B, aI x2, aI x2, aI (s (94 + x2))]) i23_43 (bt rfl) rfl rfl <| ok_iinc (pc' := 47) (v := (x2 + 1)) (ls' := [aR B, aI x2, aI (x2 + 1), aI (s (94 + x2))]) i23_44 rfl rfl rfl rfl <| ok_goto (pc' := 4) i23_47 rfl <| ?_
          have e : f23 s x2 x1 = x2 := by unfold f23; rw [if_neg (by omega), if_neg (by omega), if_neg (by omega)]
          exact ih _ _ ⟨rfl, by first | omega | (rw [e]; omega), by rw [e]; exact ⟨_, rfl, rfl⟩⟩
  · rintro x2 x1 ls M9 g1 g2 ⟨hM, hinv, w3, hw3, rfl⟩
    rw [hM]
    have g3 : x2 = (s 3) := by omega
    refine ok_iloadn (pc' := 5) i23_4 rfl rfl <| ok_aloadn (pc' := 6) i23_5 rfl rfl <| ok_getfi (v := (s 3)) (pc' := 9) i23_6 o23 gi5_36 (ShState_k0 hSB) (RepS_f2 hRB) rfl <| ?_
    refine ok_cge (pc1 := 50) (pc2 := 12) i23_9 (by omega) rfl rfl (fun h1 => ?_) (fun h9 => by exfalso; omega)
    refine ok_iloadn (pc' := 51) i23_50 rfl rfl <| ok_ireti i23_51 rt23 <| ?_
    have e2 : (r23 s) = x1 := by unfold r23; rw [g2]; unfold k23; rfl
    exact ⟨by rw [e2], rfl, rfl, by rw [e2]; omega⟩
theorem x23 {g : AG} {M : AM} {B : Nat} {s q : Int → Int} {b : Int} (hSB : ShState g B) (hRB : RepS M B s) (hV : Val b q s) (hQ : ValQ q) : -1 ≤ (r23 s) ∧ (r23 s) < s 3 ∧ (r23 s) < 80 := by
  obtain ⟨_, _, _, _, _, _, _, _, h⟩ := u23 hSB hRB hV hQ
  exact h
theorem t23 {g : AG} {M : AM} {B : Nat} {s q : Int → Int} {b : Int} (hSB : ShState g B) (hRB : RepS M B s) (hV : Val b q s) (hQ : ValQ q) :
    Ok 0 23 0 [aR B, aU, aU, aU] [] g M (Rt (some (aI (r23 s))) g (fun M9 => M9 = M)) := (u23 hSB hRB hV hQ).mono (fun o g1 M1 h => ⟨h.1, h.2.1, h.2.2.1⟩)
def f21 (s : Int → Int) (x2 x1 : Int) : Int := (x1 + (s (542 + x2)))
def k21 (x1 : Int) : Int := x1
def r21 (s : Int → Int) : Int := k21 (itv (f21 s) 0 1 200)
theorem t21 {g : AG} {M : AM} {B : Nat} {s q : Int → Int} {b : Int} (hSB : ShState g B) (hRB : RepS M B s) (hV : Val b q s) (hQ : ValQ q) :
    Ok 0 21 0 [aR B, aU, aU] [] g M (Rt (some (aI (r21 s))) g (fun M9 => M9 = M)) := by
  have ys3 : 0 ≤ s 3 ∧ s 3 ≤ 80 := V_3 hV
  have ys4 : 0 ≤ s 4 ∧ s 4 ≤ 16 := V_4 hV
  have yq0 : 0 ≤ q 0 ∧ q 0 ≤ 4 := Q_0 hQ
  have yq1 : 0 ≤ q 1 ∧ q 1 ≤ 6 := Q_1 hQ
  refine ok_iconst (pc' := 1) i21_0 rfl <| ok_istoren (pc' := 2) (ls' := [aR B, aI 0, aU]) i21_1 (bt rfl) rfl rfl <| ok_iconst (pc' := 3) i21_2 rfl <| ok_istoren (pc' := 4) (ls' := [aR B, aI 0, aI 1]) i21_3 (bt rfl) rfl rfl <| ?_
  refine ok_for (lo := 1) (n := 200) (f := (f21 s)) (a0 := 0) (fun x2 x1 ls M9 => M9 = M ∧ (-1 ≤ x2) ∧ ls = [aR B, aI x1, aI x2]) ?_ ?_ _ _ ⟨rfl, by omega, rfl⟩
  · rintro x2 x1 ls M9 g1 g2 ⟨hM, hinv, rfl⟩ ih
    rw [hM]
    have g3 : x2 < 201 := by omega
    refine ok_iloadn (pc' := 5) i21_4 rfl rfl <| ok_sipush (v := 200) (pc' := 8) i21_5 rfl rfl <| ?_
    refine ok_cgt (pc1 := 26) (pc2 := 11) i21_8 (by omega) rfl rfl (fun h9 => by exfalso; omega) (fun h1 => ?_)
    refine ok_iloadn (pc' := 12) i21_11 rfl rfl <| ok_aloadn (pc' := 13) i21_12 rfl rfl <| ok_getfr (r := (B + 17)) (pc' := 16) i21_13 o21 gr5_23 (ShState_k0 hSB) (ShState_r6 hSB) rfl <| ok_iloadn (pc' := 17) i21_16 rfl rfl <| ?_
    have z45 : 0 ≤ s (542 + x2) ∧ s (542 + x2) ≤ 1000000 := V_s hV (i := x2) (by omega) (by omega)
    refine ok_iaload (v := (s (542 + x2))) (pc' := 18) i21_17 (ShState_k17 hSB) (by decide) (ShState_l17 hSB) (by omega) (RepS_17 hRB (by omega) (by omega)) rfl <| ok_iadd (v := (x1 + (s (542 + x2)))) (pc' := 19) i21_18 rfl rfl <| ok_istoren (pc' := 20) (ls' := [aR B, aI (x1 + (s (542 + x2))), aI x2]) i21_19 (bt rfl) rfl rfl <| ok_iinc (pc' := 23) (v := (x2 + 1)) (ls' := [aR B, aI (x1 + (s (542 + x2))), aI (x2 + 1)]) i21_20 rfl rfl rfl rfl <| ok_goto (pc' := 4) i21_23 rfl <| ?_
    have e : f21 s x2 x1 = (x1 + (s (542 + x2))) := by unfold f21; rfl
    exact ih _ _ ⟨rfl, by first | omega | (rw [e]; omega), by rw [e]⟩
  · rintro x2 x1 ls M9 g1 g2 ⟨hM, hinv, rfl⟩
    rw [hM]
    have g3 : x2 = 201 := by omega
    refine ok_iloadn (pc' := 5) i21_4 rfl rfl <| ok_sipush (v := 200) (pc' := 8) i21_5 rfl rfl <| ?_
    refine ok_cgt (pc1 := 26) (pc2 := 11) i21_8 (by omega) rfl rfl (fun h1 => ?_) (fun h9 => by exfalso; omega)
    refine ok_iloadn (pc' := 27) i21_26 rfl rfl <| ok_ireti i21_27 rt21 <| ?_
    have e2 : (r21 s) = x1 := by unfold r21; rw [g2]; unfold k21; rfl
    exact ⟨by rw [e2], rfl, rfl⟩
def f34 (s : Int → Int) (x1 x2 : Int) (x4 x3 : Int) : Int := (if (s (94 + x4)) < x1 then x3 else (if x3 = (-1) then x4 else (if x2 ≠ 1 then (if x2 ≠ 2 then x3 else (if (s (94 + x4)) ≤ (s (94 + x3)) then x3 else x4)) else (if (s (94 + x4)) < (s (94 + x3)) then x4 else x3))))
def k34 (x3 : Int) : Int := x3
def r34 (s : Int → Int) (x1 x2 : Int) : Int := k34 (itv (f34 s x1 x2) (-1) 0 ((s 3).toNat))
theorem u34 {g : AG} {M : AM} {W P B : Nat} {q s : Int → Int} {b : Int} {x1 x2 : Int} (hSW : ShWorks g W P B) (hSP : ShPlan g P) (hSB : ShState g B) (hRP : RepP M P q) (hRB : RepS M B s) (hQ : ValQ q) (hV : Val b q s) (h1 : -2147483648 ≤ x1 ∧ x1 < 2147483648) (h2 : -2147483648 ≤ x2 ∧ x2 < 2147483648) :
    Ok 1 34 0 [aR W, aI x1, aI x2, aU, aU] [] g M (Rt (some (aI (r34 s x1 x2))) g (fun M9 => M9 = M ∧ (-1 ≤ (r34 s x1 x2) ∧ (r34 s x1 x2) < s 3 ∧ (r34 s x1 x2) < 80))) := by
  have yq0 : 0 ≤ q 0 ∧ q 0 ≤ 4 := Q_0 hQ
  have yq1 : 0 ≤ q 1 ∧ q 1 ≤ 6 := Q_1 hQ
  have ys3 : 0 ≤ s 3 ∧ s 3 ≤ 80 := V_3 hV
  have ys4 : 0 ≤ s 4 ∧ s 4 ≤ 16 := V_4 hV
  refine ok_iconst (pc' := 1) i34_0 rfl <| ok_istoren (pc' := 2) (ls' := [aR W, aI x1, aI x2, aI (-1), aU]) i34_1 (bt rfl) rfl rfl <| ok_iconst (pc' := 3) i34_2 rfl <| ok_istore (pc' := 5) (ls' := [aR W, aI x1, aI x2, aI (-1), aI 0]) i34_3 (bt rfl) rfl rfl <| ?_
  refine ok_for (lo := 0) (n := (s 3).toNat) (f := (f34 s x1 x2)) (a0 := (-1)) (fun x4 x3 ls M9 => M9 = M ∧ (-1 ≤ x3 ∧ x3 < x4 ∧ x4 ≤ s 3) ∧ ls = [aR W, aI x1, aI x2, aI x3, aI x4]) ?_ ?_ _ _ ⟨rfl, by omega, rfl⟩
  · rintro x4 x3 ls M9 g1 g2 ⟨hM, hinv, rfl⟩ ih
    rw [hM]
    have g3 : x4 < (s 3) := by omega
    refine ok_iload (pc' := 7) i34_5 rfl rfl <| ok_aloadn (pc' := 8) i34_7 rfl rfl <| ok_getfr (r := B) (pc' := 11) i34_8 o34 gr8_15 (ShWorks_k0 hSW) (ShWorks_r1 hSW) rfl <| ok_getfi (v := (s 3)) (pc' := 14) i34_11 o34 gi8_49 (ShState_k0 hSB) (RepS_f2 hRB) rfl <| ?_
    refine ok_cge (pc1 := 58) (pc2 := 17) i34_14 (by omega) rfl rfl (fun h9 => by exfalso; omega) (fun h1 => ?_)
    refine ok_aloadn (pc' := 18) i34_17 rfl rfl <| ok_getfr (r := B) (pc' := 21) i34_18 o34 gr8_15 (ShWorks_k0 hSW) (ShWorks_r1 hSW) rfl <| ok_getfr (r := (B + 2)) (pc' := 24) i34_21 o34 gr8_25 (ShState_k0 hSB) (ShState_r3 hSB) rfl <| ok_iconst (pc' := 25) i34_24 rfl <| ok_aaload (r := (B + 4)) (pc' := 26) i34_25 (ShState_k2 hSB) (by decide) (ShState_l2 hSB) (by decide) (ShState_e2_1 hSB) rfl <| ok_iload (pc' := 28) i34_26 rfl rfl <| ?_
    have z45 : 0 ≤ s (94 + x4) ∧ s (94 + x4) ≤ 200 := V_d1 hV (i := x4) (by omega) (by omega)
    refine ok_iaload (v := (s (94 + x4))) (pc' := 29) i34_28 (ShState_k4 hSB) (by decide) (ShState_l4 hSB) (by omega) (RepS_4 hRB (by omega) (by omega)) rfl <| ok_iloadn (pc' := 30) i34_29 rfl rfl <| ?_
    refine ok_clt (pc1 := 52) (pc2 := 33) i34_30 (by omega) rfl rfl (fun h2 => ?_) (fun h2 => ?_)
    · refine ok_iinc (pc' := 55) (v := (x4 + 1)) (ls' := [aR W, aI x1, aI x2, aI x3, aI (x4 + 1)]) i34_52 rfl rfl rfl rfl <| ok_goto (pc' := 5) i34_55 rfl <| ?_
      have e : f34 s x1 x2 x4 x3 = x3 := by unfold f34; rw [if_pos h2]
      exact ih _ _ ⟨rfl, by first | omega | (rw [e]; omega), by rw [e]⟩
    · refine ok_iloadn (pc' := 34) i34_33 rfl rfl <| ok_iconst (pc' := 35) i34_34 rfl <| ?_
      refine ok_ceq (pc1 := 49) (pc2 := 38) i34_35 (by omega) rfl rfl (fun h3 => ?_) (fun h3 => ?_)
      · refine ok_iload (pc' := 51) i34_49 rfl rfl <| ok_istoren (pc' := 52) (ls' := [aR W, aI x1, aI x2, aI x4, aI x4]) i34_51 (bt rfl) rfl rfl <| ok_iinc (pc' := 55) (v := (x4 + 1)) (ls' := [aR W, aI x1, aI x2, aI x4, aI (x4 + 1)]) i34_52 rfl rfl rfl rfl <| ok_goto (pc' := 5) i34_55 rfl <| ?_
        have e : f34 s x1 x2 x4 x3 = x4 := by unfold f34; rw [if_neg (by omega), if_pos h3]
        exact ih _ _ ⟨rfl, by first | omega | (rw [e]; omega), by rw [e]⟩
      · refine ok_aloadn (pc' := 39) i34_38 rfl rfl <| ok_iloadn (pc' := 40) i34_39 rfl rfl <| ok_iload (pc' := 42) i34_40 rfl rfl <| ok_iloadn (pc' := 43) i34_42 rfl rfl <| ok_cc i34_43 rfl (cl_v o34 m8_53 na35 rfl rfl (bt rfl) (bt rfl) rfl (by rw [ShWorks_k0 hSW, o35])) ln35 (pd35 (aR W) (aI x2) (aI x4) (aI x3)) <| ok_aloadn (pc' := 1) i35_0 rfl rfl <| ok_getfr (r := B) (pc' := 4) i35_1 o35 gr8_15 (ShWorks_k0 hSW) (ShWorks_r1 hSW) rfl <| ok_getfr (r := (B + 2)) (pc' := 7) i35_4 o35 gr8_25 (ShState_k0 hSB) (ShState_r3 hSB) rfl <| ?_
        refine ok_iconst (pc' := 8) i35_7 rfl <| ok_aaload (r := (B + 4)) (pc' := 9) i35_8 (ShState_k2 hSB) (by decide) (ShState_l2 hSB) (by decide) (ShState_e2_1 hSB) rfl <| ok_iloadn (pc' := 10) i35_9 rfl rfl <| ok_iaload (v := (s (94 + x4))) (pc' := 11) i35_10 (ShState_k4 hSB) (by decide) (ShState_l4 hSB) (by omega) (RepS_4 hRB (by omega) (by omega)) rfl <| ok_istore (pc' := 13) (ls' := [aR W, aI x2, aI x4, aI x3, aI (s (94 + x4)), aU]) i35_11 (bt rfl) rfl rfl <| ok_aloadn (pc' := 14) i35_13 rfl rfl <| ok_getfr (r := B) (pc' := 17) i35_14 o35 gr8_15 (ShWorks_k0 hSW) (ShWorks_r1 hSW) rfl <| ok_getfr (r := (B + 2)) (pc' := 20) i35_17 o35 gr8_25 (ShState_k0 hSB) (ShState_r3 hSB) rfl <| ?_
        refine ok_iconst (pc' := 21) i35_20 rfl <| ok_aaload (r := (B + 4)) (pc' := 22) i35_21 (ShState_k2 hSB) (by decide) (ShState_l2 hSB) (by decide) (ShState_e2_1 hSB) rfl <| ok_iloadn (pc' := 23) i35_22 rfl rfl <| ?_
        have z46 : 0 ≤ s (94 + x3) ∧ s (94 + x3) ≤ 200 := V_d1 hV (i := x3) (by omega) (by omega)
        refine ok_iaload (v := (s (94 + x3))) (pc' := 24) i35_23 (ShState_k4 hSB) (by decide) (ShState_l4 hSB) (by omega) (RepS_4 hRB (by omega) (by omega)) rfl <| ok_istore (pc' := 26) (ls' := [aR W, aI x2, aI x4, aI x3, aI (s (94 + x4)), aI (s (94 + x3))]) i35_24 (bt rfl) rfl rfl <| ok_iloadn (pc' := 27) i35_26 rfl rfl <| ok_iconst (pc' := 28) i35_27 rfl <| ?_
        refine ok_cne (pc1 := 38) (pc2 := 31) i35_28 (by omega) rfl rfl (fun h4 => ?_) (fun h4 => ?_)
        · refine ok_iloadn (pc' := 39) i35_38 rfl rfl <| ok_iconst (pc' := 40) i35_39 rfl <| ?_
          refine ok_cne (pc1 := 54) (pc2 := 43) i35_40 (by omega) rfl rfl (fun h5 => ?_) (fun h5 => ?_)
          · refine ok_iconst (pc' := 55) i35_54 rfl <| ok_iretz i35_55 rt35 (by decide) <| kt_v (pc' := 46) rfl <| ok_kz1 (pc1 := 52) (pc2 := 49) i34_46 (by decide) rfl rfl <| ok_iinc (pc' := 55) (v := (x4 + 1)) (ls' := [aR W, aI x1, aI x2, aI x3, aI (x4 + 1)]) i34_52 rfl rfl rfl rfl <| ok_goto (pc' := 5) i34_55 rfl <| ?_
            have e : f34 s x1 x2 x4 x3 = x3 := by unfold f34; rw [if_neg (by omega), if_neg (by omega), if_pos h4, if_pos h5]
            exact ih _ _ ⟨rfl, by first | omega | (rw [e]; omega), by rw [e]⟩
          · refine ok_iload (pc' := 45) i35_43 rfl rfl <| ok_iload (pc' := 47) i35_45 rfl rfl <| ?_
            refine ok_cle (pc1 := 54) (pc2 := 50) i35_47 (by omega) rfl rfl (fun h6 => ?_) (fun h6 => ?_)
            · refine ok_iconst (pc' := 55) i35_54 rfl <| ok_iretz i35_55 rt35 (by decide) <| kt_v (pc' := 46) rfl <| ok_kz1 (pc1 := 52) (pc2 := 49) i34_46 (by decide) rfl rfl <| ok_iinc (pc' := 55) (v := (x4 + 1)) (ls' := [aR W, aI x1, aI x2, aI x3, aI (x4 + 1)]) i34_52 rfl rfl rfl rfl <| ok_goto (pc' := 5) i34_55 rfl <| ?_
              have e : f34 s x1 x2 x4 x3 = x3 := by unfold f34; rw [if_neg (by omega), if_neg (by omega), if_pos h4, if_neg (by omega), if_pos h6]
              exact ih _ _ ⟨rfl, by first | omega | (rw [e]; omega), by rw [e]⟩
            · refine ok_iconst (pc' := 51) i35_50 rfl <| ok_goto (pc' := 55) i35_51 rfl <| ok_iretz i35_55 rt35 (by decide) <| kt_v (pc' := 46) rfl <| ok_kz0 (pc1 := 52) (pc2 := 49) i34_46 (by decide) rfl rfl <| ok_iload (pc' := 51) i34_49 rfl rfl <| ok_istoren (pc' := 52) (ls' := [aR W, aI x1, aI x2, aI x4, aI x4]) i34_51 (bt rfl) rfl rfl <| ok_iinc (pc' := 55) (v := (x4 + 1)) (ls' := [aR W, aI x1, aI x2, aI x4, aI (x4 + 1)]) i34_52 rfl rfl rfl rfl <| ?_
              refine ok_goto (pc' := 5) i34_55 rfl <| ?_
              have e : f34 s x1 x2 x4 x3 = x4 := by unfold f34; rw [if_neg (by omega), if_neg (by omega), if_pos h4, if_neg (by omega), if_neg (by omega)]
              exact ih _ _ ⟨rfl, by first | omega | (rw [e]; omega), by rw [e]⟩
        · refine ok_iload (pc' := 33) i35_31 rfl rfl <| ok_iload (pc' := 35) i35_33 rfl rfl <| ?_
          refine ok_clt (pc1 := 50) (pc2 := 38) i35_35 (by omega) rfl rfl (fun h7 => ?_) (fun h7 => ?_)
          · refine ok_iconst (pc' := 51) i35_50 rfl <| ok_goto (pc' := 55) i35_51 rfl <| ok_iretz i35_55 rt35 (by decide) <| kt_v (pc' := 46) rfl <| ok_kz0 (pc1 := 52) (pc2 := 49) i34_46 (by decide) rfl rfl <| ok_iload (pc' := 51) i34_49 rfl rfl <| ok_istoren (pc' := 52) (ls' := [aR W, aI x1, aI x2, aI x4, aI x4]) i34_51 (bt rfl) rfl rfl <| ok_iinc (pc' := 55) (v := (x4 + 1)) (ls' := [aR W, aI x1, aI x2, aI x4, aI (x4 + 1)]) i34_52 rfl rfl rfl rfl <| ?_
            refine ok_goto (pc' := 5) i34_55 rfl <| ?_
            have e : f34 s x1 x2 x4 x3 = x4 := by unfold f34; rw [if_neg (by omega), if_neg (by omega), if_neg (by omega), if_pos h7]
            exact ih _ _ ⟨rfl, by first | omega | (rw [e]; omega), by rw [e]⟩
          · refine ok_iloadn (pc' := 39) i35_38 rfl rfl <| ok_iconst (pc' := 40) i35_39 rfl <| ?_
            refine ok_cne (pc1 := 54) (pc2 := 43) i35_40 (by omega) rfl rfl (fun h8 => ?_) (fun h9 => by exfalso; omega)
            refine ok_iconst (pc' := 55) i35_54 rfl <| ok_iretz i35_55 rt35 (by decide) <| kt_v (pc' := 46) rfl <| ok_kz1 (pc1 := 52) (pc2 := 49) i34_46 (by decide) rfl rfl <| ok_iinc (pc' := 55) (v := (x4 + 1)) (ls' := [aR W, aI x1, aI x2, aI x3, aI (x4 + 1)]) i34_52 rfl rfl rfl rfl <| ok_goto (pc' := 5) i34_55 rfl <| ?_
            have e : f34 s x1 x2 x4 x3 = x3 := by unfold f34; rw [if_neg (by omega), if_neg (by omega), if_neg (by omega), if_neg (by omega)]
            exact ih _ _ ⟨rfl, by first | omega | (rw [e]; omega), by rw [e]⟩
  · rintro x4 x3 ls M9 g1 g2 ⟨hM, hinv, rfl⟩
    rw [hM]
    have g3 : x4 = (s 3) := by omega
    refine ok_iload (pc' := 7) i34_5 rfl rfl <| ok_aloadn (pc' := 8) i34_7 rfl rfl <| ok_getfr (r := B) (pc' := 11) i34_8 o34 gr8_15 (ShWorks_k0 hSW) (ShWorks_r1 hSW) rfl <| ok_getfi (v := (s 3)) (pc' := 14) i34_11 o34 gi8_49 (ShState_k0 hSB) (RepS_f2 hRB) rfl <| ?_
    refine ok_cge (pc1 := 58) (pc2 := 17) i34_14 (by omega) rfl rfl (fun h1 => ?_) (fun h9 => by exfalso; omega)
    refine ok_iloadn (pc' := 59) i34_58 rfl rfl <| ok_ireti i34_59 rt34 <| ?_
    have e2 : (r34 s x1 x2) = x3 := by unfold r34; rw [g2]; unfold k34; rfl
    exact ⟨by rw [e2], rfl, rfl, by rw [e2]; omega⟩
theorem x34 {g : AG} {M : AM} {W P B : Nat} {q s : Int → Int} {b : Int} {x1 x2 : Int} (hSW : ShWorks g W P B) (hSP : ShPlan g P) (hSB : ShState g B) (hRP : RepP M P q) (hRB : RepS M B s) (hQ : ValQ q) (hV : Val b q s) (h1 : -2147483648 ≤ x1 ∧ x1 < 2147483648) (h2 : -2147483648 ≤ x2 ∧ x2 < 2147483648) : -1 ≤ (r34 s x1 x2) ∧ (r34 s x1 x2) < s 3 ∧ (r34 s x1 x2) < 80 := by
  obtain ⟨_, _, _, _, _, _, _, _, h⟩ := u34 (x1 := x1) (x2 := x2) hSW hSP hSB hRP hRB hQ hV h1 h2
  exact h
theorem t34 {g : AG} {M : AM} {W P B : Nat} {q s : Int → Int} {b : Int} {x1 x2 : Int} (hSW : ShWorks g W P B) (hSP : ShPlan g P) (hSB : ShState g B) (hRP : RepP M P q) (hRB : RepS M B s) (hQ : ValQ q) (hV : Val b q s) (h1 : -2147483648 ≤ x1 ∧ x1 < 2147483648) (h2 : -2147483648 ≤ x2 ∧ x2 < 2147483648) :
    Ok 1 34 0 [aR W, aI x1, aI x2, aU, aU] [] g M (Rt (some (aI (r34 s x1 x2))) g (fun M9 => M9 = M)) := (u34 hSW hSP hSB hRP hRB hQ hV h1 h2).mono (fun o g1 M1 h => ⟨h.1, h.2.1, h.2.2.1⟩)
def f192 (s : Int → Int) (x2 x1 : Int) : Int := (x1 + (s ((414 + (8 * x2)) + 4)))
def k192 (x1 : Int) : Int := x1
def r192 (s : Int → Int) : Int := k192 (itv (f192 s) 0 0 ((s 4).toNat))
def f207 (s : Int → Int) (x1 : Int) (x3 x2 : Int) : Int := (if (s (414 + (8 * x3))) ≠ x1 then x2 else (x2 + (s ((414 + (8 * x3)) + 4))))
def k207 (x2 : Int) : Int := x2
def r207 (s : Int → Int) (x1 : Int) : Int := k207 (itv (f207 s x1) 0 0 ((s 4).toNat))
def f213 (s : Int → Int) (x1 x2 : Int) (x4 x3 : Int) : Int := (if (s (174 + x4)) ≠ 0 then x3 else (if (s (94 + x4)) < x1 then x3 else (if x3 = (-1) then x4 else (if x2 ≠ 1 then (if x2 ≠ 2 then x3 else (if (s (94 + x4)) ≤ (s (94 + x3)) then x3 else x4)) else (if (s (94 + x4)) < (s (94 + x3)) then x4 else x3)))))
def k213 (x3 : Int) : Int := x3
def r213 (s : Int → Int) (x1 x2 : Int) : Int := k213 (itv (f213 s x1 x2) (-1) 0 ((s 3).toNat))
def f218 (s : Int → Int) (x1 : Int) (x3 x2 : Int) : Int := (if (s ((414 + (8 * x3)) + 4)) ≤ 0 then x2 else (if x1 = 0 then (if x2 = (-1) then x3 else (if (s ((414 + (8 * x2)) + 3)) ≤ (s ((414 + (8 * x3)) + 3)) then x2 else x3)) else (if (s (414 + (8 * x3))) ≠ x1 then x2 else (if x2 = (-1) then x3 else (if (s ((414 + (8 * x2)) + 3)) ≤ (s ((414 + (8 * x3)) + 3)) then x2 else x3)))))
def k218 (x2 : Int) : Int := x2
def r218 (s : Int → Int) (x1 : Int) : Int := k218 (itv (f218 s x1) (-1) 0 ((s 4).toNat))
