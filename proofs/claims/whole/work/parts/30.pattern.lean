/-! PATTERNS (by program, wip/gen) -/
theorem o37 : am_oc 37 = 8 := by decide +kernel
theorem rt37 : am_rt 37 = some .int := by decide +kernel
theorem m8_46 : am_mlk 8 46 0 33 = true := by decide +kernel
theorem na33 : am_na 33 = 2 := by decide +kernel
theorem nl33 : am_nL 33 = 3 := by decide +kernel
theorem pd33 : ∀ a0 a1 a2 : AV, am_pad 33 [a0, a1, a2] = [a0, a1, a2] := by intros; unfold am_pad; rw [nl33]; rfl
theorem ln33 : 3 ≤ am_nL 33 := by rw [nl33]; decide
theorem o33 : am_oc 33 = 8 := by decide +kernel
theorem gr8_31 : am_gfr 8 31 5 1 = true := by decide +kernel
theorem m8_34 : am_mlk 8 34 6 0 = true := by decide +kernel
theorem rt33 : am_rt 33 = some .int := by decide +kernel
theorem o38 : am_oc 38 = 8 := by decide +kernel
theorem rt38 : am_rt 38 = some .int := by decide +kernel
theorem m8_57 : am_mlk 8 57 0 37 = true := by decide +kernel
theorem na37 : am_na 37 = 2 := by decide +kernel
theorem nl37 : am_nL 37 = 6 := by decide +kernel
theorem pd37 : ∀ a0 a1 a2 : AV, am_pad 37 [a0, a1, a2] = [a0, a1, a2, aU, aU, aU] := by intros; unfold am_pad; rw [nl37]; rfl
theorem ln37 : 3 ≤ am_nL 37 := by rw [nl37]; decide
theorem b37_0 {Q : AO → AG → AM → Prop} {g : AG} {M : AM}  {W P B : Nat} {x1 x2 : Int}  (hSW : ShWorks g W P B) (hSP : ShPlan g P) (hSB : ShState g B)  (q0 : 0 ≤ x1 ∧ x1 < 6) (q1 : 0 ≤ x2 ∧ x2 < 80)
    (K1 : Ok 1 37 26 [aR W, aI x1, aI x2, aI (M (B + 4) x2), aI (M (P + 3) x1), aI 0] [] g M Q) :
    Ok 1 37 0 [aR W, aI x1, aI x2, aU, aU, aU] [] g M Q := by
  refine ok_aloadn (pc' := 1) i37_0 rfl rfl <| ok_getfr (r := B) (pc' := 4) i37_1 o37 gr8_15 (ShWorks_k0 hSW) (ShWorks_r1 hSW) rfl <| ok_getfr (r := (B + 2)) (pc' := 7) i37_4 o37 gr8_25 (ShState_k0 hSB) (ShState_r3 hSB) rfl <| ok_iconst (pc' := 8) i37_7 rfl <| ok_aaload (r := (B + 4)) (pc' := 9) i37_8 (ShState_k2 hSB) (by decide) (ShState_l2 hSB) (by decide) (ShState_e2_1 hSB) rfl <| ok_iloadn (pc' := 10) i37_9 rfl rfl <| ok_iaload (v := (M (B + 4) x2)) (pc' := 11) i37_10 (ShState_k4 hSB) (by decide) (ShState_l4 hSB) (by omega) rfl rfl <| ok_istoren (pc' := 12) (ls' := [aR W, aI x1, aI x2, aI (M (B + 4) x2), aU, aU]) i37_11 (bt rfl) rfl rfl <| ?_
  refine ok_aloadn (pc' := 13) i37_12 rfl rfl <| ok_getfr (r := P) (pc' := 16) i37_13 o37 gr8_9 (ShWorks_k0 hSW) (ShWorks_r0 hSW) rfl <| ok_getfr (r := (P + 3)) (pc' := 19) i37_16 o37 gr8_40 (ShPlan_k0 hSP) (ShPlan_r4 hSP) rfl <| ok_iloadn (pc' := 20) i37_19 rfl rfl <| ok_iaload (v := (M (P + 3) x1)) (pc' := 21) i37_20 (ShPlan_k3 hSP) (by decide) (ShPlan_l3 hSP) (by omega) rfl rfl <| ok_istore (pc' := 23) (ls' := [aR W, aI x1, aI x2, aI (M (B + 4) x2), aI (M (P + 3) x1), aU]) i37_21 (bt rfl) rfl rfl <| ok_iconst (pc' := 24) i37_23 rfl <| ok_istore (pc' := 26) (ls' := [aR W, aI x1, aI x2, aI (M (B + 4) x2), aI (M (P + 3) x1), aI 0]) i37_24 (bt rfl) rfl rfl <| ?_
  exact K1
theorem b37_26 {Q : AO → AG → AM → Prop} {g : AG} {M : AM}  {W P B : Nat} {x1 x2 x3 x4 x5 : Int}  (hSW : ShWorks g W P B) (hSP : ShPlan g P) (hSB : ShState g B)  (q0 : 0 ≤ x5) (q1 : -2147483648 ≤ x5 ∧ x5 < 2147483648) (q2 : 0 ≤ x1 ∧ x1 < 6) (q3 : 0 ≤ x4 ∧ x4 ≤ 6) (q4 : -1 ≤ x3 ∧ x3 ≤ 200) (q5 : x5 < x4 → 0 ≤ M (P + 5 + x1.toNat) x5 ∧ M (P + 5 + x1.toNat) x5 ≤ 200) (q6 : 0 ≤ M (B + 1) 0 ∧ M (B + 1) 0 ≤ 9)
    (K2 : x4 ≤ x5 → Q (.inl (some (aI x3))) g M)
    (K4 : x5 < x4 → x3 = (-1) → Q (.inl (some (aI x3))) g M)
    (K6 : x5 < x4 → x3 ≠ (-1) → (M (P + 5 + x1.toNat) x5) ≤ x3 → Ok 1 37 26 [aR W, aI x1, aI x2, aI (max 0 ((x3 - (M (P + 5 + x1.toNat) x5)) - (M (B + 1) 0))), aI x4, aI (x5 + 1)] [] g M Q)
    (K7 : x5 < x4 → x3 ≠ (-1) → x3 < (M (P + 5 + x1.toNat) x5) → Ok 1 37 26 [aR W, aI x1, aI x2, aI (-1), aI x4, aI (x5 + 1)] [] g M Q) :
    Ok 1 37 26 [aR W, aI x1, aI x2, aI x3, aI x4, aI x5] [] g M Q := by
  refine ok_iload (pc' := 28) i37_26 rfl rfl <| ok_iload (pc' := 30) i37_28 rfl rfl <| ?_
  refine ok_cge (pc1 := 62) (pc2 := 33) i37_30 (by clear q5; omega) rfl rfl (fun h1 => ?_) (fun h1 => ?_)
  · refine ok_iloadn (pc' := 63) i37_62 rfl rfl <| ok_ireti i37_63 rt37 <| ?_
    exact K2 h1
  · refine ok_iloadn (pc' := 34) i37_33 rfl rfl <| ok_iconst (pc' := 35) i37_34 rfl <| ?_
    refine ok_ceq (pc1 := 62) (pc2 := 38) i37_35 (by have z0 := q5 h1; clear q5; omega) rfl rfl (fun h3 => ?_) (fun h3 => ?_)
    · refine ok_iloadn (pc' := 63) i37_62 rfl rfl <| ok_ireti i37_63 rt37 <| ?_
      exact K4 h1 h3
    · refine ok_aloadn (pc' := 39) i37_38 rfl rfl <| ok_iloadn (pc' := 40) i37_39 rfl rfl <| ok_aloadn (pc' := 41) i37_40 rfl rfl <| ok_getfr (r := P) (pc' := 44) i37_41 o37 gr8_9 (ShWorks_k0 hSW) (ShWorks_r0 hSW) rfl <| ok_getfr (r := (P + 4)) (pc' := 47) i37_44 o37 gr8_43 (ShPlan_k0 hSP) (ShPlan_r5 hSP) rfl <| ok_iloadn (pc' := 48) i37_47 rfl rfl <| ok_aaload (r := (P + 5 + x1.toNat)) (pc' := 49) i37_48 (ShPlan_k4 hSP) (by decide) (ShPlan_l4 hSP) (by have z0 := q5 h1; clear q5; omega) (ShPlan_ev4 hSP (by have z0 := q5 h1; clear q5; omega) (by have z0 := q5 h1; clear q5; omega)) rfl <| ok_iload (pc' := 51) i37_49 rfl rfl <| ?_
      refine ok_iaload (v := (M (P + 5 + x1.toNat) x5)) (pc' := 52) i37_51 (ShPlan_kv4 hSP (by have z0 := q5 h1; clear q5; omega) (by have z0 := q5 h1; clear q5; omega)) (by decide) (ShPlan_lv4 hSP (by have z0 := q5 h1; clear q5; omega) (by have z0 := q5 h1; clear q5; omega)) (by have z0 := q5 h1; clear q5; omega) rfl rfl <| ok_cc i37_52 rfl (cl_v o37 m8_46 na33 rfl rfl (bt rfl) (bt rfl) rfl (by rw [ShWorks_k0 hSW, o33])) ln33 (pd33 (aR W) (aI x3) (aI (M (P + 5 + x1.toNat) x5))) <| ok_iloadn (pc' := 1) i33_0 rfl rfl <| ok_iloadn (pc' := 2) i33_1 rfl rfl <| ?_
      refine ok_cle (pc1 := 9) (pc2 := 5) i33_2 (by have z0 := q5 h1; clear q5; omega) rfl rfl (fun h5 => ?_) (fun h5 => ?_)
      · refine ok_iconst (pc' := 10) i33_9 rfl <| ok_iloadn (pc' := 11) i33_10 rfl rfl <| ok_iloadn (pc' := 12) i33_11 rfl rfl <| ok_isub (v := (x3 - (M (P + 5 + x1.toNat) x5))) (pc' := 13) i33_12 rfl rfl <| ok_aloadn (pc' := 14) i33_13 rfl rfl <| ok_getfr (r := B) (pc' := 17) i33_14 o33 gr8_15 (ShWorks_k0 hSW) (ShWorks_r1 hSW) rfl <| ok_getfr (r := (B + 1)) (pc' := 20) i33_17 o33 gr8_31 (ShState_k0 hSB) (ShState_r1 hSB) rfl <| ok_iconst (pc' := 21) i33_20 rfl <| ?_
        refine ok_iaload (v := (M (B + 1) 0)) (pc' := 22) i33_21 (ShState_k1 hSB) (by decide) (ShState_l1 hSB) (by decide) rfl rfl <| ok_isub (v := ((x3 - (M (P + 5 + x1.toNat) x5)) - (M (B + 1) 0))) (pc' := 23) i33_22 rfl rfl <| ok_max (v := (max 0 ((x3 - (M (P + 5 + x1.toNat) x5)) - (M (B + 1) 0)))) (pc' := 26) i33_23 o33 m8_34 (by have z0 := q5 h1; clear q5; omega) (bt rfl) rfl rfl <| ok_ireti i33_26 rt33 <| kt_v (pc' := 55) rfl <| ok_istoren (pc' := 56) (ls' := [aR W, aI x1, aI x2, aI (max 0 ((x3 - (M (P + 5 + x1.toNat) x5)) - (M (B + 1) 0))), aI x4, aI x5]) i37_55 (bt rfl) rfl rfl <| ok_iinc (pc' := 59) (v := (x5 + 1)) (ls' := [aR W, aI x1, aI x2, aI (max 0 ((x3 - (M (P + 5 + x1.toNat) x5)) - (M (B + 1) 0))), aI x4, aI (x5 + 1)]) i37_56 rfl rfl rfl rfl <| ok_goto (pc' := 26) i37_59 rfl <| ?_
        exact K6 h1 h3 h5
      · refine ok_iconst (pc' := 6) i33_5 rfl <| ok_goto (pc' := 26) i33_6 rfl <| ok_ireti i33_26 rt33 <| kt_v (pc' := 55) rfl <| ok_istoren (pc' := 56) (ls' := [aR W, aI x1, aI x2, aI (-1), aI x4, aI x5]) i37_55 (bt rfl) rfl rfl <| ok_iinc (pc' := 59) (v := (x5 + 1)) (ls' := [aR W, aI x1, aI x2, aI (-1), aI x4, aI (x5 + 1)]) i37_56 rfl rfl rfl rfl <| ok_goto (pc' := 26) i37_59 rfl <| ?_
        exact K7 h1 h3 h5
def f37 (M : AM) (W P B : Nat) (x1 x2 x4 : Int) (x5 x3 : Int) : Int ⊕ Int := (if x3 = (-1) then (.inr x3) else (if (M (P + 5 + x1.toNat) x5) ≤ x3 then (.inl (max 0 ((x3 - (M (P + 5 + x1.toNat) x5)) - (M (B + 1) 0)))) else (.inl (-1))))
def r37 (M : AM) (W P B : Nat) (x1 x2 : Int) : Int := (itr (itx (f37 M W P B x1 x2 (M (P + 3) x1)) (M (B + 4) x2) 0 (M (P + 3) x1).toNat) (fun x3 => x3))
theorem t37 {g : AG} {M : AM} {W P B : Nat} {x1 x2 : Int} (hSW : ShWorks g W P B) (hSP : ShPlan g P) (hSB : ShState g B) (h0 : 0 ≤ x1 ∧ x1 < 6) (h1 : 0 ≤ M (P + 3) x1 ∧ M (P + 3) x1 ≤ 6) (h2 : 0 ≤ x2 ∧ x2 < 80) (h4 : -1 ≤ M (B + 4) x2 ∧ M (B + 4) x2 ≤ 200) (h5 : 0 ≤ M (B + 1) 0 ∧ M (B + 1) 0 ≤ 9) (h3 : ∀ i : Int, 0 ≤ i → i < M (P + 3) x1 → 0 ≤ M (P + 5 + x1.toNat) i ∧ M (P + 5 + x1.toNat) i ≤ 200) :
    Ok 1 37 0 [aR W, aI x1, aI x2, aU, aU, aU] [] g M (Rt (some (aI (r37 M W P B x1 x2))) g (fun M9 => M9 = M)) := by
  refine b37_0 hSW hSP hSB (by omega) (by omega) ?_
  refine ok_forx (lo := 0) (n := (M (P + 3) x1).toNat) (f := (f37 M W P B x1 x2 (M (P + 3) x1))) (a0 := (M (B + 4) x2)) (fun i a => -1 ≤ a ∧ a ≤ 200) (fun i a ls => ls = [aR W, aI x1, aI x2, aI a, aI (M (P + 3) x1), aI i]) ?_ ?_ ?_ _ rfl
  · omega
  · rintro x5 x3 ls g1 g2 hinv rfl hr ih
    have r3 := h3 x5
    refine b37_26 hSW hSP hSB  (by omega) (by omega) (by omega) (by omega) (by omega) (by omega) (by omega) (fun h1 => by omega) (fun h1 h3 => ?_) (fun h1 h3 h5 => ?_) (fun h1 h3 h5 => ?_)
    · have e : f37 M W P B x1 x2 (M (P + 3) x1) x5 x3 = (.inr x3) := by unfold f37; rw [if_pos h3]
      exact ⟨by unfold r37; rw [hr _ e]; rfl, rfl, rfl⟩
    · have e : f37 M W P B x1 x2 (M (P + 3) x1) x5 x3 = (.inl (max 0 ((x3 - (M (P + 5 + x1.toNat) x5)) - (M (B + 1) 0)))) := by unfold f37; rw [if_neg (by omega), if_pos h5]
      exact ih _ _ e (by omega) rfl
    · have e : f37 M W P B x1 x2 (M (P + 3) x1) x5 x3 = (.inl (-1)) := by unfold f37; rw [if_neg (by omega), if_neg (by omega)]
      exact ih _ _ e (by omega) rfl
  · rintro x3 ls hx hinv rfl
    have r3 := h3 (0 + ((M (P + 3) x1).toNat : Nat))
    refine b37_26 hSW hSP hSB  (by omega) (by omega) (by omega) (by omega) (by omega) (by omega) (by omega) (fun h1 => ⟨by unfold r37; rw [hx]; rfl, rfl, rfl⟩) (fun h1 h3 => by omega) (fun h1 h3 h5 => by omega) (fun h1 h3 h5 => by omega)
theorem b38_0 {Q : AO → AG → AM → Prop} {g : AG} {M : AM}  {W P B : Nat} {x1 : Int}  (hSW : ShWorks g W P B) (hSP : ShPlan g P) (hSB : ShState g B)  
    (K1 : Ok 2 38 4 [aR W, aI x1, aI (-1), aI 0] [] g M Q) :
    Ok 2 38 0 [aR W, aI x1, aU, aU] [] g M Q := by
  refine ok_iconst (pc' := 1) i38_0 rfl <| ok_istoren (pc' := 2) (ls' := [aR W, aI x1, aI (-1), aU]) i38_1 (bt rfl) rfl rfl <| ok_iconst (pc' := 3) i38_2 rfl <| ok_istoren (pc' := 4) (ls' := [aR W, aI x1, aI (-1), aI 0]) i38_3 (bt rfl) rfl rfl <| ?_
  exact K1
theorem b38_4 {Q : AO → AG → AM → Prop} {g : AG} {M : AM}  {W P B : Nat} {x1 x2 x3 : Int}  (hSW : ShWorks g W P B) (hSP : ShPlan g P) (hSB : ShState g B)  (q0 : 0 ≤ x3) (q1 : -2147483648 ≤ x3 ∧ x3 < 2147483648) (q2 : 0 ≤ x1 ∧ x1 < 6) (q3 : 0 ≤ M B 2 ∧ M B 2 ≤ 80) (q4 : -1 ≤ x2 ∧ x2 < M B 2) (q5 : 0 ≤ M (P + 3) x1 ∧ M (P + 3) x1 ≤ 6) (q6 : ∀ i : Int, 0 ≤ i → i < M B 2 → 0 ≤ M (B + 4) i ∧ M (B + 4) i ≤ 200) (q7 : 0 ≤ M (B + 1) 0 ∧ M (B + 1) 0 ≤ 9) (q8 : ∀ i : Int, 0 ≤ i → i < M (P + 3) x1 → 0 ≤ M (P + 5 + x1.toNat) i ∧ M (P + 5 + x1.toNat) i ≤ 200) (q9 : x3 < M B 2 → -2147483648 ≤ (r37 M W P B x1 x3) ∧ (r37 M W P B x1 x3) < 2147483648) (q10 : x3 < M B 2 → -2147483648 ≤ M (B + 4) x3 ∧ M (B + 4) x3 < 2147483648) (q11 : x2 ≠ -1 → -2147483648 ≤ M (B + 4) x2 ∧ M (B + 4) x2 < 2147483648)
    (K2 : (M B 2) ≤ x3 → Q (.inl (some (aI x2))) g M)
    (K4 : x3 < (M B 2) → (r37 M W P B x1 x3) = (-1) → Ok 2 38 4 [aR W, aI x1, aI x2, aI (x3 + 1)] [] g M Q)
    (K6 : x3 < (M B 2) → (r37 M W P B x1 x3) ≠ (-1) → x2 = (-1) → Ok 2 38 4 [aR W, aI x1, aI x3, aI (x3 + 1)] [] g M Q)
    (K8 : x3 < (M B 2) → (r37 M W P B x1 x3) ≠ (-1) → x2 ≠ (-1) → (M (B + 4) x2) ≤ (M (B + 4) x3) → Ok 2 38 4 [aR W, aI x1, aI x2, aI (x3 + 1)] [] g M Q)
    (K9 : x3 < (M B 2) → (r37 M W P B x1 x3) ≠ (-1) → x2 ≠ (-1) → (M (B + 4) x3) < (M (B + 4) x2) → Ok 2 38 4 [aR W, aI x1, aI x3, aI (x3 + 1)] [] g M Q) :
    Ok 2 38 4 [aR W, aI x1, aI x2, aI x3] [] g M Q := by
  refine ok_iloadn (pc' := 5) i38_4 rfl rfl <| ok_aloadn (pc' := 6) i38_5 rfl rfl <| ok_getfr (r := B) (pc' := 9) i38_6 o38 gr8_15 (ShWorks_k0 hSW) (ShWorks_r1 hSW) rfl <| ok_getfi (v := (M B 2)) (pc' := 12) i38_9 o38 gi8_49 (ShState_k0 hSB) rfl rfl <| ?_
  refine ok_cge (pc1 := 63) (pc2 := 15) i38_12 (by clear q6 q8 q9 q10 q11; omega) rfl rfl (fun h1 => ?_) (fun h1 => ?_)
  · refine ok_iloadn (pc' := 64) i38_63 rfl rfl <| ok_ireti i38_64 rt38 <| ?_
    exact K2 h1
  · refine ok_aloadn (pc' := 16) i38_15 rfl rfl <| ok_iloadn (pc' := 17) i38_16 rfl rfl <| ok_iloadn (pc' := 18) i38_17 rfl rfl <| ok_cp (pc' := 21) (d0 := 1) i38_18 rfl (cl_v o38 m8_57 na37 rfl rfl (bt rfl) (bt rfl) rfl (by rw [ShWorks_k0 hSW, o37])) ln37 (pd37 (aR W) (aI x1) (aI x3)) (by decide) (t37 hSW hSP hSB q2 q5 (by omega) (by have z0 := q6 x3; omega) q7 q8) rfl <| ok_iconst (pc' := 22) i38_21 rfl <| ?_
    refine ok_ceq (pc1 := 57) (pc2 := 25) i38_22 ⟨(q9 h1).1, (q9 h1).2, by decide, by decide⟩ rfl rfl (fun h3 => ?_) (fun h3 => ?_)
    · refine ok_iinc (pc' := 60) (v := (x3 + 1)) (ls' := [aR W, aI x1, aI x2, aI (x3 + 1)]) i38_57 rfl rfl rfl rfl <| ok_goto (pc' := 4) i38_60 rfl <| ?_
      exact K4 h1 h3
    · refine ok_iloadn (pc' := 26) i38_25 rfl rfl <| ok_iconst (pc' := 27) i38_26 rfl <| ?_
      refine ok_ceq (pc1 := 55) (pc2 := 30) i38_27 (by have z0 := q9 h1; have z1 := q10 h1; clear q6 q8 q9 q10 q11; omega) rfl rfl (fun h5 => ?_) (fun h5 => ?_)
      · refine ok_iloadn (pc' := 56) i38_55 rfl rfl <| ok_istoren (pc' := 57) (ls' := [aR W, aI x1, aI x3, aI x3]) i38_56 (bt rfl) rfl rfl <| ok_iinc (pc' := 60) (v := (x3 + 1)) (ls' := [aR W, aI x1, aI x3, aI (x3 + 1)]) i38_57 rfl rfl rfl rfl <| ok_goto (pc' := 4) i38_60 rfl <| ?_
        exact K6 h1 h3 h5
      · refine ok_aloadn (pc' := 31) i38_30 rfl rfl <| ok_getfr (r := B) (pc' := 34) i38_31 o38 gr8_15 (ShWorks_k0 hSW) (ShWorks_r1 hSW) rfl <| ok_getfr (r := (B + 2)) (pc' := 37) i38_34 o38 gr8_25 (ShState_k0 hSB) (ShState_r3 hSB) rfl <| ok_iconst (pc' := 38) i38_37 rfl <| ok_aaload (r := (B + 4)) (pc' := 39) i38_38 (ShState_k2 hSB) (by decide) (ShState_l2 hSB) (by decide) (ShState_e2_1 hSB) rfl <| ok_iloadn (pc' := 40) i38_39 rfl rfl <| ok_iaload (v := (M (B + 4) x3)) (pc' := 41) i38_40 (ShState_k4 hSB) (by decide) (ShState_l4 hSB) (by have z0 := q9 h1; have z1 := q10 h1; have z2 := q11 h5; clear q6 q8 q9 q10 q11; omega) rfl rfl <| ok_aloadn (pc' := 42) i38_41 rfl rfl <| ?_
        refine ok_getfr (r := B) (pc' := 45) i38_42 o38 gr8_15 (ShWorks_k0 hSW) (ShWorks_r1 hSW) rfl <| ok_getfr (r := (B + 2)) (pc' := 48) i38_45 o38 gr8_25 (ShState_k0 hSB) (ShState_r3 hSB) rfl <| ok_iconst (pc' := 49) i38_48 rfl <| ok_aaload (r := (B + 4)) (pc' := 50) i38_49 (ShState_k2 hSB) (by decide) (ShState_l2 hSB) (by decide) (ShState_e2_1 hSB) rfl <| ok_iloadn (pc' := 51) i38_50 rfl rfl <| ok_iaload (v := (M (B + 4) x2)) (pc' := 52) i38_51 (ShState_k4 hSB) (by decide) (ShState_l4 hSB) (by have z0 := q9 h1; have z1 := q10 h1; have z2 := q11 h5; clear q6 q8 q9 q10 q11; omega) rfl rfl <| ?_
        refine ok_cge (pc1 := 57) (pc2 := 55) i38_52 ⟨(q10 h1).1, (q10 h1).2, (q11 h5).1, (q11 h5).2⟩ rfl rfl (fun h7 => ?_) (fun h7 => ?_)
        · refine ok_iinc (pc' := 60) (v := (x3 + 1)) (ls' := [aR W, aI x1, aI x2, aI (x3 + 1)]) i38_57 rfl rfl rfl rfl <| ok_goto (pc' := 4) i38_60 rfl <| ?_
          exact K8 h1 h3 h5 h7
        · refine ok_iloadn (pc' := 56) i38_55 rfl rfl <| ok_istoren (pc' := 57) (ls' := [aR W, aI x1, aI x3, aI x3]) i38_56 (bt rfl) rfl rfl <| ok_iinc (pc' := 60) (v := (x3 + 1)) (ls' := [aR W, aI x1, aI x3, aI (x3 + 1)]) i38_57 rfl rfl rfl rfl <| ok_goto (pc' := 4) i38_60 rfl <| ?_
          exact K9 h1 h3 h5 h7
def f38 (M : AM) (W P B : Nat) (x1 : Int) (x3 x2 : Int) : Int := (if (r37 M W P B x1 x3) = (-1) then x2 else (if x2 = (-1) then x3 else (if (M (B + 4) x2) ≤ (M (B + 4) x3) then x2 else x3)))
def r38 (M : AM) (W P B : Nat) (x1 : Int) : Int := (itv (f38 M W P B x1) (-1) 0 (M B 2).toNat)
theorem t38 {g : AG} {M : AM} {W P B : Nat} {x1 : Int} (hSW : ShWorks g W P B) (hSP : ShPlan g P) (hSB : ShState g B) (h0 : 0 ≤ x1 ∧ x1 < 6) (h1 : 0 ≤ M (P + 3) x1 ∧ M (P + 3) x1 ≤ 6) (h2 : 0 ≤ M B 2 ∧ M B 2 ≤ 80) (h4 : ∀ i : Int, 0 ≤ i → i < M B 2 → 0 ≤ M (B + 4) i ∧ M (B + 4) i ≤ 200) (h5 : 0 ≤ M (B + 1) 0 ∧ M (B + 1) 0 ≤ 9) (h3 : ∀ i : Int, 0 ≤ i → i < M (P + 3) x1 → 0 ≤ M (P + 5 + x1.toNat) i ∧ M (P + 5 + x1.toNat) i ≤ 200) (h6 : ∀ i : Int, 0 ≤ i → i < M B 2 → -2147483648 ≤ (r37 M W P B x1 i) ∧ (r37 M W P B x1 i) < 2147483648) :
    Ok 2 38 0 [aR W, aI x1, aU, aU] [] g M (Rt (some (aI (r38 M W P B x1))) g (fun M9 => M9 = M)) := by
  refine b38_0 hSW hSP hSB  ?_
  refine ok_for (lo := 0) (n := (M B 2).toNat) (f := (f38 M W P B x1)) (a0 := (-1)) (fun i a => -1 ≤ a ∧ a < i ∧ i ≤ M B 2) (fun i a ls => ls = [aR W, aI x1, aI a, aI i]) ?_ ?_ ?_ _ rfl
  · omega
  · rintro x3 x2 ls g1 g2 hinv rfl ih
    have r4 := h4 x3
    have r2 := h4 x2
    have r6 := h6 x3
    refine b38_4 hSW hSP hSB  (by omega) (by omega) (by omega) (by omega) (by omega) (by omega) (by assumption) (by omega) (by assumption) (by omega) (by omega) (by omega) (fun h1 => by omega) (fun h1 h3 => ?_) (fun h1 h3 h5 => ?_) (fun h1 h3 h5 h7 => ?_) (fun h1 h3 h5 h7 => ?_)
    · have e : f38 M W P B x1 x3 x2 = x2 := by unfold f38; rw [if_pos h3]
      exact ih _ (by rw [e]; omega) (by rw [e])
    · have e : f38 M W P B x1 x3 x2 = x3 := by unfold f38; rw [if_neg (by omega), if_pos h5]
      exact ih _ (by rw [e]; omega) (by rw [e])
    · have e : f38 M W P B x1 x3 x2 = x2 := by unfold f38; rw [if_neg (by omega), if_neg (by omega), if_pos h7]
      exact ih _ (by rw [e]; omega) (by rw [e])
    · have e : f38 M W P B x1 x3 x2 = x3 := by unfold f38; rw [if_neg (by omega), if_neg (by omega), if_neg (by omega)]
      exact ih _ (by rw [e]; omega) (by rw [e])
  · rintro ls hinv rfl
    have r4 := h4 (0 + ((M B 2).toNat : Nat))
    have r2 := h4 (itv (f38 M W P B x1) (-1) 0 (M B 2).toNat)
    have r6 := h6 (0 + ((M B 2).toNat : Nat))
    refine b38_4 hSW hSP hSB  (by omega) (by omega) (by omega) (by omega) (by omega) (by omega) (by assumption) (by omega) (by assumption) (by omega) (by omega) (by omega) (fun h1 => ⟨rfl, rfl, rfl⟩) (fun h1 h3 => by omega) (fun h1 h3 h5 => by omega) (fun h1 h3 h5 h7 => by omega) (fun h1 h3 h5 h7 => by omega)
