/-! THE REFERENCE KEEPS AND FETCHES (by program, wip/gen) -/
/-- n numbers are laid from d on -/
def cpI (h f : Int → Int) (d n : Int) : Int → Int := fun y => if d ≤ y ∧ y < d + n then f (y - d) else h y
theorem cpI_0 {h f : Int → Int} {d : Int} : cpI h f d 0 = h := by
  funext y
  unfold cpI
  rw [if_neg (by omega)]
theorem cpI_step {h f : Int → Int} {d n v : Int} (hn : 0 ≤ n) (hv : v = f n) : upI (cpI h f d n) (d + n) v = cpI h f d (n + 1) := by
  funext y
  unfold upI cpI
  by_cases hy : y = d + n
  · rw [if_pos hy, if_pos (by omega), hv, hy, show d + n - d = n by omega]
  · rw [if_neg hy]
    by_cases h2 : d ≤ y ∧ y < d + n
    · rw [if_pos h2, if_pos (by omega)]
    · rw [if_neg h2, if_neg (by omega)]
theorem cpI_in {h f : Int → Int} {d n y : Int} (hy : d ≤ y ∧ y < d + n) : cpI h f d n y = f (y - d) := if_pos hy
theorem cpI_out {h f : Int → Int} {d n y : Int} (hy : y < d ∨ d + n ≤ y) : cpI h f d n y = h y := if_neg (by omega)
theorem upM_at' {M : AM} {a : Nat} {f : Int → Int} {y : Int} : upM M a f a y = f y := by rw [upM_at]
theorem upM_na' {M : AM} {a b : Nat} {f : Int → Int} {y : Int} (h : b ≠ a) : upM M a f b y = M b y := by rw [upM_na h]
theorem gr9_25 : am_gfr 9 25 9 9 = true := by decide +kernel
theorem o234 : am_oc 234 = 9 := by decide +kernel
theorem rt234 : am_rt 234 = none := by decide +kernel
theorem o242 : am_oc 242 = 9 := by decide +kernel
theorem rt242 : am_rt 242 = none := by decide +kernel
theorem o267 : am_oc 267 = 9 := by decide +kernel
theorem gi9_213 : am_gfi 9 213 9 10 = true := by decide +kernel
theorem pi267_213 : am_pfi 267 9 213 9 10 = true := by decide +kernel
theorem m9_314 : am_mlk 9 314 0 234 = true := by decide +kernel
theorem na234 : am_na 234 = 1 := by decide +kernel
theorem nl234 : am_nL 234 = 3 := by decide +kernel
theorem pd234 : ∀ a0 a1 : AV, am_pad 234 [a0, a1] = [a0, a1, aU] := by intros; unfold am_pad; rw [nl234]; rfl
theorem ln234 : 2 ≤ am_nL 234 := by rw [nl234]; decide
theorem rt267 : am_rt 267 = none := by decide +kernel
theorem t234 {g : AG} {M : AM} {O : Nat} {x1 : Int} (hSO : ShModel g O) (h1 : 0 ≤ x1 ∧ x1 ≤ 10) :
    Ok 0 234 0 [aR O, aI x1, aU] [] g M (Rt none g (fun M9 => M9 = upM M (O + 6) (cpI (M (O + 6)) (M (O + 5)) (983 * x1) 983))) := by
  refine ok_iconst (pc' := 1) i234_0 rfl <| ok_istoren (pc' := 2) (ls' := [aR O, aI x1, aI 0]) i234_1 (bt rfl) rfl rfl <| ?_
  refine ok_for (σ := Unit) (lo := 0) (n := 983) (f := fun _ a => a) (a0 := ()) (fun x2 _ ls M9 => M9 = upM M (O + 6) (cpI (M (O + 6)) (M (O + 5)) (983 * x1) x2) ∧ ls = [aR O, aI x1, aI x2]) ?_ ?_ _ _ ⟨by rw [cpI_0]; exact upM_self.symm, rfl⟩
  · rintro x2 _ ls M9 g1 g2 ⟨hM, rfl⟩ ih
    have g3 : x2 < 983 := by omega
    refine ok_iloadn (pc' := 3) i234_2 rfl rfl <| ok_sipush (v := 983) (pc' := 6) i234_3 rfl rfl <| ?_
    refine ok_cge (pc1 := 33) (pc2 := 9) i234_6 (by omega) rfl rfl (fun h9 => by exfalso; omega) (fun h1 => ?_)
    refine ok_aloadn (pc' := 10) i234_9 rfl rfl <| ok_getfr (r := (O + 6)) (pc' := 13) i234_10 o234 gr9_25 (ShModel_k0 hSO) (ShModel_r9 hSO) rfl <| ok_sipush (v := 983) (pc' := 16) i234_13 rfl rfl <| ok_iloadn (pc' := 17) i234_16 rfl rfl <| ok_imul (v := (983 * x1)) (pc' := 18) i234_17 rfl rfl <| ok_iloadn (pc' := 19) i234_18 rfl rfl <| ok_iadd (v := ((983 * x1) + x2)) (pc' := 20) i234_19 rfl rfl <| ok_aloadn (pc' := 21) i234_20 rfl rfl <| ?_
    refine ok_getfr (r := (O + 5)) (pc' := 24) i234_21 o234 gr9_22 (ShModel_k0 hSO) (ShModel_r8 hSO) rfl <| ok_iloadn (pc' := 25) i234_24 rfl rfl <| ok_iaload (v := (M9 (O + 5) x2)) (pc' := 26) i234_25 (ShModel_k5 hSO) (by decide) (ShModel_l5 hSO) (by omega) rfl rfl <| ok_iastore (pc' := 27) i234_26 (ShModel_k6 hSO) (ShModel_l6 hSO) (by omega) rfl <| ok_iinc (pc' := 30) (v := (x2 + 1)) (ls' := [aR O, aI x1, aI (x2 + 1)]) i234_27 rfl rfl rfl rfl <| ok_goto (pc' := 2) i234_30 rfl <| ?_
    refine ih _ _ ⟨?_, rfl⟩
    rw [hM, up2_fold]
    refine congrArg _ (cpI_step (by omega) ?_)
    rw [upM_na' (by omega)]
  · rintro x2 _ ls M9 g1 g2 ⟨hM, rfl⟩
    have g3 : x2 = 983 := by omega
    refine ok_iloadn (pc' := 3) i234_2 rfl rfl <| ok_sipush (v := 983) (pc' := 6) i234_3 rfl rfl <| ?_
    refine ok_cge (pc1 := 33) (pc2 := 9) i234_6 (by omega) rfl rfl (fun h1 => ?_) (fun h9 => by exfalso; omega)
    refine ok_vret i234_33 rt234 <| ?_
    exact ⟨rfl, rfl, by rw [hM, g3]⟩
theorem t242 {g : AG} {M : AM} {O : Nat} {x1 : Int} (hSO : ShModel g O) (h1 : 0 ≤ x1 ∧ x1 ≤ 10) :
    Ok 0 242 0 [aR O, aI x1, aU] [] g M (Rt none g (fun M9 => M9 = upM M (O + 5) (cpI (M (O + 5)) (fun y => M (O + 6) ((983 * x1) + y)) 0 983))) := by
  refine ok_iconst (pc' := 1) i242_0 rfl <| ok_istoren (pc' := 2) (ls' := [aR O, aI x1, aI 0]) i242_1 (bt rfl) rfl rfl <| ?_
  refine ok_for (σ := Unit) (lo := 0) (n := 983) (f := fun _ a => a) (a0 := ()) (fun x2 _ ls M9 => M9 = upM M (O + 5) (cpI (M (O + 5)) (fun y => M (O + 6) ((983 * x1) + y)) 0 x2) ∧ ls = [aR O, aI x1, aI x2]) ?_ ?_ _ _ ⟨by rw [cpI_0]; exact upM_self.symm, rfl⟩
  · rintro x2 _ ls M9 g1 g2 ⟨hM, rfl⟩ ih
    have g3 : x2 < 983 := by omega
    refine ok_iloadn (pc' := 3) i242_2 rfl rfl <| ok_sipush (v := 983) (pc' := 6) i242_3 rfl rfl <| ?_
    refine ok_cge (pc1 := 33) (pc2 := 9) i242_6 (by omega) rfl rfl (fun h9 => by exfalso; omega) (fun h1 => ?_)
    refine ok_aloadn (pc' := 10) i242_9 rfl rfl <| ok_getfr (r := (O + 5)) (pc' := 13) i242_10 o242 gr9_22 (ShModel_k0 hSO) (ShModel_r8 hSO) rfl <| ok_iloadn (pc' := 14) i242_13 rfl rfl <| ok_aloadn (pc' := 15) i242_14 rfl rfl <| ok_getfr (r := (O + 6)) (pc' := 18) i242_15 o242 gr9_25 (ShModel_k0 hSO) (ShModel_r9 hSO) rfl <| ok_sipush (v := 983) (pc' := 21) i242_18 rfl rfl <| ok_iloadn (pc' := 22) i242_21 rfl rfl <| ok_imul (v := (983 * x1)) (pc' := 23) i242_22 rfl rfl <| ?_
    refine ok_iloadn (pc' := 24) i242_23 rfl rfl <| ok_iadd (v := ((983 * x1) + x2)) (pc' := 25) i242_24 rfl rfl <| ok_iaload (v := (M9 (O + 6) ((983 * x1) + x2))) (pc' := 26) i242_25 (ShModel_k6 hSO) (by decide) (ShModel_l6 hSO) (by omega) rfl rfl <| ok_iastore (pc' := 27) i242_26 (ShModel_k5 hSO) (ShModel_l5 hSO) (by omega) rfl <| ok_iinc (pc' := 30) (v := (x2 + 1)) (ls' := [aR O, aI x1, aI (x2 + 1)]) i242_27 rfl rfl rfl rfl <| ok_goto (pc' := 2) i242_30 rfl <| ?_
    refine ih _ _ ⟨?_, rfl⟩
    rw [hM, up2_fold]
    refine congrArg _ ?_
    have e := cpI_step (h := M (O + 5)) (f := fun y => M (O + 6) ((983 * x1) + y)) (d := 0) (n := x2) (by omega) rfl
    rw [Int.zero_add] at e
    rw [upM_na' (by omega)]
    exact e
  · rintro x2 _ ls M9 g1 g2 ⟨hM, rfl⟩
    have g3 : x2 = 983 := by omega
    refine ok_iloadn (pc' := 3) i242_2 rfl rfl <| ok_sipush (v := 983) (pc' := 6) i242_3 rfl rfl <| ?_
    refine ok_cge (pc1 := 33) (pc2 := 9) i242_6 (by omega) rfl rfl (fun h1 => ?_) (fun h9 => by exfalso; omega)
    refine ok_vret i242_33 rt242 <| ?_
    exact ⟨rfl, rfl, by rw [hM, g3]⟩
theorem w267 {d : Nat} {Q : AO → AG → AM → Prop} {g : AG} {M : AM} {O : Nat} (hSO : ShModel g O) (K : ∀ M1, M1 = upM M (O + 6) (cpI (M (O + 6)) (fun y => M (O + 6) (y + 1966)) 983 6881) → ∀ ls, ls = [aR O, aI 7864] → Ok (d + 1) 267 42 ls [] g M1 Q) :
    Ok (d + 1) 267 13 [aR O, aI 983] [] g M Q := by
  refine ok_for (σ := Unit) (lo := 983) (n := 6881) (f := fun _ a => a) (a0 := ()) (fun x1 _ ls M9 => M9 = upM M (O + 6) (cpI (M (O + 6)) (fun y => M (O + 6) (y + 1966)) 983 (x1 - 983)) ∧ ls = [aR O, aI x1]) ?_ ?_ _ _ ⟨by rw [show (983 : Int) - 983 = 0 from rfl, cpI_0]; exact upM_self.symm, rfl⟩
  · rintro x1 _ ls M9 g1 g2 ⟨hM, rfl⟩ ih
    have g3 : x1 < 7864 := by omega
    refine ok_iloadn (pc' := 14) i267_13 rfl rfl <| ok_sipush (v := 7864) (pc' := 17) i267_14 rfl rfl <| ?_
    refine ok_cge (pc1 := 42) (pc2 := 20) i267_17 (by omega) rfl rfl (fun h9 => by exfalso; omega) (fun h1 => ?_)
    refine ok_aloadn (pc' := 21) i267_20 rfl rfl <| ok_getfr (r := (O + 6)) (pc' := 24) i267_21 o267 gr9_25 (ShModel_k0 hSO) (ShModel_r9 hSO) rfl <| ok_iloadn (pc' := 25) i267_24 rfl rfl <| ok_aloadn (pc' := 26) i267_25 rfl rfl <| ok_getfr (r := (O + 6)) (pc' := 29) i267_26 o267 gr9_25 (ShModel_k0 hSO) (ShModel_r9 hSO) rfl <| ok_iloadn (pc' := 30) i267_29 rfl rfl <| ok_sipush (v := 983) (pc' := 33) i267_30 rfl rfl <| ok_iadd (v := (x1 + 983)) (pc' := 34) i267_33 rfl rfl <| ?_
    refine ok_iaload (v := (M9 (O + 6) (x1 + 983))) (pc' := 35) i267_34 (ShModel_k6 hSO) (by decide) (ShModel_l6 hSO) (by omega) rfl rfl <| ok_iastore (pc' := 36) i267_35 (ShModel_k6 hSO) (ShModel_l6 hSO) (by omega) rfl <| ok_iinc (pc' := 39) (v := (x1 + 1)) (ls' := [aR O, aI (x1 + 1)]) i267_36 rfl rfl rfl rfl <| ok_goto (pc' := 13) i267_39 rfl <| ?_
    refine ih _ _ ⟨?_, rfl⟩
    rw [hM, up2_fold]
    refine congrArg _ (funext fun y => ?_)
    show upI (cpI (M (O + 6)) (fun y => M (O + 6) (y + 1966)) 983 (x1 - 983)) x1 _ y = _
    rw [upM_at']
    unfold upI cpI
    by_cases hy : y = x1
    · subst hy
      rw [if_pos rfl, if_neg (by omega), if_pos (by omega)]
      show M (O + 6) (y + 983) = M (O + 6) (y - 983 + 1966)
      rw [show y - 983 + 1966 = y + 983 by omega]
    · rw [if_neg hy]
      by_cases h2 : 983 ≤ y ∧ y < 983 + (x1 - 983)
      · rw [if_pos h2, if_pos (by omega)]
      · rw [if_neg h2, if_neg (by omega)]
  · rintro x1 _ ls M9 g1 g2 ⟨hM, rfl⟩
    have g3 : x1 = 7864 := by omega
    refine ok_iloadn (pc' := 14) i267_13 rfl rfl <| ok_sipush (v := 7864) (pc' := 17) i267_14 rfl rfl <| ?_
    refine ok_cge (pc1 := 42) (pc2 := 20) i267_17 (by omega) rfl rfl (fun h1 => ?_) (fun h9 => by exfalso; omega)
    exact K _ (by rw [hM, g3]; rfl) _ (by rw [g3])
theorem t267f {g : AG} {M : AM} {O : Nat} (hSO : ShModel g O) (hc : M O 10 = 8) :
    Ok 1 267 0 [aR O, aU] [] g M (Rt none g (fun M9 => (∀ c, c ≠ O ∧ c ≠ O + 6 → M9 c = M c) ∧ (∀ y : Int, y ≠ 10 → M9 O y = M O y) ∧ M9 O 10 = 8 ∧ M9 (O + 6) = cpI (cpI (M (O + 6)) (fun y => M (O + 6) (y + 1966)) 983 6881) (M (O + 5)) (983 * 8) 983)) := by
  refine ok_aloadn (pc' := 1) i267_0 rfl rfl <| ok_getfi (v := 8) (pc' := 4) i267_1 o267 gi9_213 (ShModel_k0 hSO) hc rfl <| ok_bipush (v := 8) (pc' := 6) i267_4 rfl rfl <| ok_kc0 (pc1 := 52) (pc2 := 9) i267_6 (by decide) rfl rfl <| ok_sipush (v := 983) (pc' := 12) i267_9 rfl rfl <| ok_istoren (pc' := 13) (ls' := [aR O, aI 983]) i267_12 (bt rfl) rfl rfl <| ?_
  refine w267 hSO (fun M1 hM1 ls8 hls => ?_)
  subst hls
  refine ok_aloadn (pc' := 43) i267_42 rfl rfl <| ok_dup (pc' := 44) i267_43 rfl rfl <| ok_getfi (v := 8) (pc' := 47) i267_44 o267 gi9_213 (ShModel_k0 hSO) (by rw [hM1, upM_na' (by omega)]; exact hc) rfl <| ok_iconst (pc' := 48) i267_47 rfl <| ok_isub (v := 7) (pc' := 49) i267_48 rfl rfl <| ok_putfi (pc' := 52) i267_49 o267 pi267_213 (ShModel_k0 hSO) rfl <| ok_aloadn (pc' := 53) i267_52 rfl rfl <| ok_iconst (pc' := 54) i267_53 rfl <| ?_
  refine ok_aloadn (pc' := 55) i267_54 rfl rfl <| ok_getfi (v := 7) (pc' := 58) i267_55 o267 gi9_213 (ShModel_k0 hSO) rd_eq rfl <| ok_iadd (v := 8) (pc' := 59) i267_58 rfl rfl <| ?_
  refine ok_cn0 (pc' := 62) (d0 := 0) i267_59 rfl (cl_v o267 m9_314 na234 rfl rfl (bt rfl) (bt rfl) rfl (by rw [ShModel_k0 hSO, o234])) ln234 (pd234 (aR O) (aI 8)) (by omega) (t234 (x1 := 8) hSO (by omega)) rfl (fun M1 p2 => ?_)
  refine ok_aloadn (pc' := 63) i267_62 rfl rfl <| ok_dup (pc' := 64) i267_63 rfl rfl <| ok_getfi (v := 7) (pc' := 67) i267_64 o267 gi9_213 (ShModel_k0 hSO) (by rw [p2, upM_na' (by omega)]; exact rd_eq) rfl <| ok_iconst (pc' := 68) i267_67 rfl <| ok_iadd (v := 8) (pc' := 69) i267_68 rfl rfl <| ok_putfi (pc' := 72) i267_69 o267 pi267_213 (ShModel_k0 hSO) rfl <| ok_vret i267_72 rt267 <| ?_
  refine ⟨rfl, rfl, fun c hc1 => ?_, fun y hy => ?_, ?_, ?_⟩
  · rw [up2_na hc1.1, p2, upM_na hc1.2, up2_na hc1.1, hM1, upM_na hc1.2]
  · rw [up2_rd, if_neg (by omega), p2, upM_na' (by omega), up2_rd, if_neg (by omega), hM1, upM_na' (by omega)]
  · exact rd_eq
  · rw [up2_na (by omega), p2, upM_at, up2_na (by omega), up2_na (by omega), hM1, upM_at, upM_na (by omega)]
theorem t267n {g : AG} {M : AM} {O : Nat} {c : Int} (hSO : ShModel g O) (hc : M O 10 = c) (hc9 : 0 ≤ c ∧ c < 8) :
    Ok 1 267 0 [aR O, aU] [] g M (Rt none g (fun M9 => (∀ c, c ≠ O ∧ c ≠ O + 6 → M9 c = M c) ∧ (∀ y : Int, y ≠ 10 → M9 O y = M O y) ∧ M9 O 10 = c + 1 ∧ M9 (O + 6) = cpI (M (O + 6)) (M (O + 5)) (983 * (1 + c)) 983)) := by
  refine ok_aloadn (pc' := 1) i267_0 rfl rfl <| ok_getfi (v := c) (pc' := 4) i267_1 o267 gi9_213 (ShModel_k0 hSO) hc rfl <| ok_bipush (v := 8) (pc' := 6) i267_4 rfl rfl <| ?_
  refine ok_cne (pc1 := 52) (pc2 := 9) i267_6 (by omega) rfl rfl (fun h1 => ?_) (fun h9 => by exfalso; omega)
  refine ok_aloadn (pc' := 53) i267_52 rfl rfl <| ok_iconst (pc' := 54) i267_53 rfl <| ok_aloadn (pc' := 55) i267_54 rfl rfl <| ok_getfi (v := c) (pc' := 58) i267_55 o267 gi9_213 (ShModel_k0 hSO) hc rfl <| ok_iadd (v := (1 + c)) (pc' := 59) i267_58 rfl rfl <| ?_
  refine ok_cn0 (pc' := 62) (d0 := 0) i267_59 rfl (cl_v o267 m9_314 na234 rfl rfl (bt rfl) (bt rfl) rfl (by rw [ShModel_k0 hSO, o234])) ln234 (pd234 (aR O) (aI (1 + c))) (by omega) (t234 (x1 := (1 + c)) hSO (by omega)) rfl (fun M2 p3 => ?_)
  refine ok_aloadn (pc' := 63) i267_62 rfl rfl <| ok_dup (pc' := 64) i267_63 rfl rfl <| ok_getfi (v := c) (pc' := 67) i267_64 o267 gi9_213 (ShModel_k0 hSO) (by rw [p3, upM_na' (by omega)]; exact hc) rfl <| ok_iconst (pc' := 68) i267_67 rfl <| ok_iadd (v := (c + 1)) (pc' := 69) i267_68 rfl rfl <| ok_putfi (pc' := 72) i267_69 o267 pi267_213 (ShModel_k0 hSO) rfl <| ok_vret i267_72 rt267 <| ?_
  refine ⟨rfl, rfl, fun c hc1 => ?_, fun y hy => ?_, ?_, ?_⟩
  · rw [up2_na hc1.1, p3, upM_na hc1.2]
  · rw [up2_rd, if_neg (by omega), p3, upM_na' (by omega)]
  · exact rd_eq
  · rw [up2_na (by omega), p3, upM_at]
