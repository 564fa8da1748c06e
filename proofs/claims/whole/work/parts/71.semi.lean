/-! LINES AHEAD OF A PLACE (by program, wip/gen) -/
/-! LINES AHEAD OF A PLACE -/
def semF (by_ : Int → Int) (i c : Int) : Int := if by_ i = 59 then c + 1 else c
def semS (by_ : Int → Int) (p : Int) : Int := itv (semF by_) 0 0 p.toNat
theorem o86 : am_oc 86 = 3 := by decide +kernel
theorem rt86 : am_rt 86 = some .int := by decide +kernel
theorem o184 : am_oc 184 = 9 := by decide +kernel
theorem rt184 : am_rt 184 = some .int := by decide +kernel
theorem t86 {g : AG} {M : AM} {J Z P B : Nat} {by_ : Int → Int} {p : Int} (hSJ : ShParser g J Z P B) (hSZ : ShBytes g Z) (hZ : InZ M Z by_) (hp : 0 ≤ p ∧ p ≤ 700) (j5 : M J 5 = p) :
    Ok 0 86 0 [aR J, aU, aU] [] g M (Rt (some (aI (semS by_ p))) g (fun M9 => M9 = M)) := by
  refine ok_iconst (pc' := 1) i86_0 rfl <| ok_istoren (pc' := 2) (ls' := [aR J, aI 0, aU]) i86_1 (bt rfl) rfl rfl <| ok_iconst (pc' := 3) i86_2 rfl <| ok_istoren (pc' := 4) (ls' := [aR J, aI 0, aI 0]) i86_3 (bt rfl) rfl rfl <| ?_
  refine ok_for (lo := 0) (n := p.toNat) (f := semF by_) (a0 := 0) (fun i c ls M9 => M9 = M ∧ ls = [aR J, aI c, aI i]) ?_ ?_ _ _ ⟨rfl, rfl⟩
  · rintro i c ls M9 g1 g2 ⟨hM9, rfl⟩ ih
    rw [hM9]
    have g3 : i < p := by omega
    refine ok_iloadn (pc' := 5) i86_4 rfl rfl <| ok_aloadn (pc' := 6) i86_5 rfl rfl <| ok_getfi (v := p) (pc' := 9) i86_6 o86 gi3_75 (ShParser_k0 hSJ) j5 rfl <| ?_
    refine ok_cge (pc1 := 32) (pc2 := 12) i86_9 (by omega) rfl rfl (fun h9 => by exfalso; omega) (fun h301 => ?_)
    refine ok_aloadn (pc' := 13) i86_12 rfl rfl <| ok_getfr (r := Z) (pc' := 16) i86_13 o86 gr3_25 (ShParser_k0 hSJ) (ShParser_r0 hSJ) rfl <| ok_iloadn (pc' := 17) i86_16 rfl rfl <| ?_
    have z61 : -128 ≤ (by_ i) ∧ (by_ i) < 128 := (hZ i (by omega) (by omega)).2
    refine ok_baload (v := (by_ i)) (pc' := 18) i86_17 (ShBytes_k0 hSZ) (by decide) (ShBytes_l0 hSZ) (by omega) (hZ i (by omega) (by omega)).1 rfl <| ok_bipush (v := 59) (pc' := 20) i86_18 rfl rfl <| ?_
    refine ok_cne (pc1 := 26) (pc2 := 23) i86_20 (by omega) rfl rfl (fun h302 => ?_) (fun h302 => ?_)
    · refine ok_iinc (pc' := 29) (v := (i + 1)) (ls' := [aR J, aI c, aI (i + 1)]) i86_26 rfl rfl rfl rfl <| ok_goto (pc' := 4) i86_29 rfl <| ?_
      have e : semF by_ i c = c := by unfold semF; rw [if_neg (by omega)]
      exact ih _ _ ⟨rfl, by rw [e]⟩
    · refine ok_iinc (pc' := 26) (v := (c + 1)) (ls' := [aR J, aI (c + 1), aI i]) i86_23 rfl rfl rfl rfl <| ok_iinc (pc' := 29) (v := (i + 1)) (ls' := [aR J, aI (c + 1), aI (i + 1)]) i86_26 rfl rfl rfl rfl <| ok_goto (pc' := 4) i86_29 rfl <| ?_
      have e : semF by_ i c = (c + 1) := by unfold semF; rw [if_pos (by omega)]
      exact ih _ _ ⟨rfl, by rw [e]⟩
  · rintro i c ls M9 g1 g2 ⟨hM9, rfl⟩
    rw [hM9]
    have g3 : i = p := by omega
    refine ok_iloadn (pc' := 5) i86_4 rfl rfl <| ok_aloadn (pc' := 6) i86_5 rfl rfl <| ok_getfi (v := p) (pc' := 9) i86_6 o86 gi3_75 (ShParser_k0 hSJ) j5 rfl <| ?_
    refine ok_cge (pc1 := 32) (pc2 := 12) i86_9 (by omega) rfl rfl (fun h301 => ?_) (fun h9 => by exfalso; omega)
    refine ok_iloadn (pc' := 33) i86_32 rfl rfl <| ok_ireti i86_33 rt86 <| ?_
    exact ⟨by rw [show semS by_ p = c from g2], rfl, rfl⟩
theorem t184 {g : AG} {M : AM} {O : Nat} {by_ : Int → Int} {p : Int} (hSO : ShModel g O) (hU : InU M O by_) (hp : 0 ≤ p ∧ p ≤ 700) :
    Ok 1 184 0 [aR O, aI p, aU, aU] [] g M (Rt (some (aI (semS by_ p))) g (fun M9 => M9 = M)) := by
  refine ok_iconst (pc' := 1) i184_0 rfl <| ok_istoren (pc' := 2) (ls' := [aR O, aI p, aI 0, aU]) i184_1 (bt rfl) rfl rfl <| ok_iconst (pc' := 3) i184_2 rfl <| ok_istoren (pc' := 4) (ls' := [aR O, aI p, aI 0, aI 0]) i184_3 (bt rfl) rfl rfl <| ?_
  refine ok_for (lo := 0) (n := p.toNat) (f := semF by_) (a0 := 0) (fun i c ls M9 => M9 = M ∧ ls = [aR O, aI p, aI c, aI i]) ?_ ?_ _ _ ⟨rfl, rfl⟩
  · rintro i c ls M9 g1 g2 ⟨hM9, rfl⟩ ih
    rw [hM9]
    have g3 : i < p := by omega
    refine ok_iloadn (pc' := 5) i184_4 rfl rfl <| ok_iloadn (pc' := 6) i184_5 rfl rfl <| ?_
    refine ok_cge (pc1 := 37) (pc2 := 9) i184_6 (by omega) rfl rfl (fun h9 => by exfalso; omega) (fun h301 => ?_)
    refine ok_iloadn (pc' := 10) i184_9 rfl rfl <| ok_aloadn (pc' := 11) i184_10 rfl rfl <| ok_getfr (r := (O + 8)) (pc' := 14) i184_11 o184 gr9_32 (ShModel_k0 hSO) (ShModel_r12 hSO) rfl <| ok_iloadn (pc' := 15) i184_14 rfl rfl <| ?_
    have z61 : 0 ≤ (ub by_ i) ∧ (ub by_ i) ≤ 255 := ub_f
    have u_i : ub by_ i = by_ i % 256 ∧ -128 ≤ by_ i ∧ by_ i < 128 := ⟨rfl, (hU i (by omega) (by omega)).2⟩
    refine ok_iaload (v := (ub by_ i)) (pc' := 16) i184_15 (ShModel_k8 hSO) (by decide) (ShModel_l8 hSO) (by omega) (hU i (by omega) (by omega)).1 rfl <| ok_bipush (v := 59) (pc' := 18) i184_16 rfl rfl <| ?_
    refine ok_cne (pc1 := 25) (pc2 := 21) i184_18 (by omega) rfl rfl (fun h302 => ?_) (fun h302 => ?_)
    · refine ok_iconst (pc' := 26) i184_25 rfl <| ok_cc i184_26 rfl (cl_s o184 m9_193 na185 rfl rfl (bt rfl) (bt rfl) rfl) ln185 (pd185 (aI 0)) <| ok_iloadn (pc' := 1) i185_0 rfl rfl <| ok_kz1 (pc1 := 8) (pc2 := 4) i185_1 (by decide) rfl rfl <| ok_iconst (pc' := 9) i185_8 rfl <| ok_ireti i185_9 rt185 <| kt_v (pc' := 29) rfl <| ok_iadd (v := c) (pc' := 30) i184_29 (by omega) rfl <| ?_
      refine ok_istoren (pc' := 31) (ls' := [aR O, aI p, aI c, aI i]) i184_30 (bt rfl) rfl rfl <| ok_iinc (pc' := 34) (v := (i + 1)) (ls' := [aR O, aI p, aI c, aI (i + 1)]) i184_31 rfl rfl rfl rfl <| ok_goto (pc' := 4) i184_34 rfl <| ?_
      have e : semF by_ i c = c := by unfold semF; rw [if_neg (by omega)]
      exact ih _ _ ⟨rfl, by rw [e]⟩
    · refine ok_iconst (pc' := 22) i184_21 rfl <| ok_goto (pc' := 26) i184_22 rfl <| ok_cc i184_26 rfl (cl_s o184 m9_193 na185 rfl rfl (bt rfl) (bt rfl) rfl) ln185 (pd185 (aI 1)) <| ok_iloadn (pc' := 1) i185_0 rfl rfl <| ok_kz0 (pc1 := 8) (pc2 := 4) i185_1 (by decide) rfl rfl <| ok_iconst (pc' := 5) i185_4 rfl <| ok_goto (pc' := 9) i185_5 rfl <| ok_ireti i185_9 rt185 <| ?_
      refine kt_v (pc' := 29) rfl <| ok_iadd (v := (c + 1)) (pc' := 30) i184_29 rfl rfl <| ok_istoren (pc' := 31) (ls' := [aR O, aI p, aI (c + 1), aI i]) i184_30 (bt rfl) rfl rfl <| ok_iinc (pc' := 34) (v := (i + 1)) (ls' := [aR O, aI p, aI (c + 1), aI (i + 1)]) i184_31 rfl rfl rfl rfl <| ok_goto (pc' := 4) i184_34 rfl <| ?_
      have e : semF by_ i c = (c + 1) := by unfold semF; rw [if_pos (by omega)]
      exact ih _ _ ⟨rfl, by rw [e]⟩
  · rintro i c ls M9 g1 g2 ⟨hM9, rfl⟩
    rw [hM9]
    have g3 : i = p := by omega
    refine ok_iloadn (pc' := 5) i184_4 rfl rfl <| ok_iloadn (pc' := 6) i184_5 rfl rfl <| ?_
    refine ok_cge (pc1 := 37) (pc2 := 9) i184_6 (by omega) rfl rfl (fun h301 => ?_) (fun h9 => by exfalso; omega)
    refine ok_iloadn (pc' := 38) i184_37 rfl rfl <| ok_ireti i184_38 rt184 <| ?_
    exact ⟨by rw [show semS by_ p = c from g2], rfl, rfl⟩
