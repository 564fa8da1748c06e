/-! LOOPS: the reference's questions, the works' (by program, wip/gen) -/
theorem gr9_22 : am_gfr 9 22 9 8 = true := by decide +kernel
theorem o192 : am_oc 192 = 9 := by decide +kernel
theorem rt192 : am_rt 192 = some .int := by decide +kernel
theorem m9_226 : am_mlk 9 226 0 191 = true := by decide +kernel
theorem na191 : am_na 191 = 2 := by decide +kernel
theorem nl191 : am_nL 191 = 3 := by decide +kernel
theorem pd191 : ∀ a0 a1 a2 : AV, am_pad 191 [a0, a1, a2] = [a0, a1, a2] := by intros; unfold am_pad; rw [nl191]; rfl
theorem ln191 : 3 ≤ am_nL 191 := by rw [nl191]; decide
theorem o191 : am_oc 191 = 9 := by decide +kernel
theorem rt191 : am_rt 191 = some .int := by decide +kernel
theorem o207 : am_oc 207 = 9 := by decide +kernel
theorem rt207 : am_rt 207 = some .int := by decide +kernel
theorem o213 : am_oc 213 = 9 := by decide +kernel
theorem rt213 : am_rt 213 = some .int := by decide +kernel
theorem m9_259 : am_mlk 9 259 0 210 = true := by decide +kernel
theorem na210 : am_na 210 = 2 := by decide +kernel
theorem nl210 : am_nL 210 = 3 := by decide +kernel
theorem pd210 : ∀ a0 a1 a2 : AV, am_pad 210 [a0, a1, a2] = [a0, a1, a2] := by intros; unfold am_pad; rw [nl210]; rfl
theorem ln210 : 3 ≤ am_nL 210 := by rw [nl210]; decide
theorem o210 : am_oc 210 = 9 := by decide +kernel
theorem m9_229 : am_mlk 9 229 0 189 = true := by decide +kernel
theorem na189 : am_na 189 = 1 := by decide +kernel
theorem nl189 : am_nL 189 = 2 := by decide +kernel
theorem pd189 : ∀ a0 a1 : AV, am_pad 189 [a0, a1] = [a0, a1] := by intros; unfold am_pad; rw [nl189]; rfl
theorem ln189 : 2 ≤ am_nL 189 := by rw [nl189]; decide
theorem o189 : am_oc 189 = 9 := by decide +kernel
theorem rt189 : am_rt 189 = some .boolean := by decide +kernel
theorem rt210 : am_rt 210 = some .boolean := by decide +kernel
theorem o218 : am_oc 218 = 9 := by decide +kernel
theorem rt218 : am_rt 218 = some .int := by decide +kernel
theorem m9_232 : am_mlk 9 232 0 190 = true := by decide +kernel
theorem na190 : am_na 190 = 1 := by decide +kernel
theorem nl190 : am_nL 190 = 2 := by decide +kernel
theorem pd190 : ∀ a0 a1 : AV, am_pad 190 [a0, a1] = [a0, a1] := by intros; unfold am_pad; rw [nl190]; rfl
theorem ln190 : 2 ≤ am_nL 190 := by rw [nl190]; decide
theorem o190 : am_oc 190 = 9 := by decide +kernel
theorem rt190 : am_rt 190 = some .boolean := by decide +kernel
theorem gr8_15 : am_gfr 8 15 8 1 = true := by decide +kernel
theorem o34 : am_oc 34 = 8 := by decide +kernel
theorem gi8_49 : am_gfi 8 49 5 2 = true := by decide +kernel
theorem rt34 : am_rt 34 = some .int := by decide +kernel
theorem gr8_25 : am_gfr 8 25 5 3 = true := by decide +kernel
theorem m8_53 : am_mlk 8 53 0 35 = true := by decide +kernel
theorem na35 : am_na 35 = 3 := by decide +kernel
theorem nl35 : am_nL 35 = 6 := by decide +kernel
theorem pd35 : ∀ a0 a1 a2 a3 : AV, am_pad 35 [a0, a1, a2, a3] = [a0, a1, a2, a3, aU, aU] := by intros; unfold am_pad; rw [nl35]; rfl
theorem ln35 : 4 ≤ am_nL 35 := by rw [nl35]; decide
theorem o35 : am_oc 35 = 8 := by decide +kernel
theorem rt35 : am_rt 35 = some .boolean := by decide +kernel
theorem b192_0 {Q : AO → AG → AM → Prop} {g : AG} {M : AM}  {O : Nat}  (hSO : ShModel g O)  
    (K1 : Ok 1 192 4 [aR O, aI 0, aI 0] [] g M Q) :
    Ok 1 192 0 [aR O, aU, aU] [] g M Q := by
  refine ok_iconst (pc' := 1) i192_0 rfl <| ok_istoren (pc' := 2) (ls' := [aR O, aI 0, aU]) i192_1 (bt rfl) rfl rfl <| ok_iconst (pc' := 3) i192_2 rfl <| ok_istoren (pc' := 4) (ls' := [aR O, aI 0, aI 0]) i192_3 (bt rfl) rfl rfl <| ?_
  exact K1
theorem b192_4 {Q : AO → AG → AM → Prop} {g : AG} {M : AM}  {O : Nat} {x1 x2 : Int}  (hSO : ShModel g O)  (q0 : 0 ≤ x2) (q1 : -2147483648 ≤ x2 ∧ x2 < 2147483648) (q2 : 0 ≤ M (O + 5) 4 ∧ M (O + 5) 4 ≤ 16)
    (K2 : (M (O + 5) 4) ≤ x2 → Q (.inl (some (aI x1))) g M)
    (K3 : x2 < (M (O + 5) 4) → Ok 1 192 4 [aR O, aI (x1 + (M (O + 5) ((414 + (8 * x2)) + 4))), aI (x2 + 1)] [] g M Q) :
    Ok 1 192 4 [aR O, aI x1, aI x2] [] g M Q := by
  refine ok_iloadn (pc' := 5) i192_4 rfl rfl <| ok_aloadn (pc' := 6) i192_5 rfl rfl <| ok_getfr (r := (O + 5)) (pc' := 9) i192_6 o192 gr9_22 (ShModel_k0 hSO) (ShModel_r8 hSO) rfl <| ok_iconst (pc' := 10) i192_9 rfl <| ok_iaload (v := (M (O + 5) 4)) (pc' := 11) i192_10 (ShModel_k5 hSO) (by decide) (ShModel_l5 hSO) (by decide) rfl rfl <| ?_
  refine ok_cge (pc1 := 29) (pc2 := 14) i192_11 (by omega) rfl rfl (fun h1 => ?_) (fun h1 => ?_)
  · refine ok_iloadn (pc' := 30) i192_29 rfl rfl <| ok_ireti i192_30 rt192 <| ?_
    exact K2 h1
  · refine ok_iloadn (pc' := 15) i192_14 rfl rfl <| ok_aloadn (pc' := 16) i192_15 rfl rfl <| ok_iloadn (pc' := 17) i192_16 rfl rfl <| ok_iconst (pc' := 18) i192_17 rfl <| ok_cc i192_18 rfl (cl_v o192 m9_226 na191 rfl rfl (bt rfl) (bt rfl) rfl (by rw [ShModel_k0 hSO, o191])) ln191 (pd191 (aR O) (aI x2) (aI 4)) <| ok_aloadn (pc' := 1) i191_0 rfl rfl <| ok_getfr (r := (O + 5)) (pc' := 4) i191_1 o191 gr9_22 (ShModel_k0 hSO) (ShModel_r8 hSO) rfl <| ok_sipush (v := 414) (pc' := 7) i191_4 rfl rfl <| ?_
    refine ok_bipush (v := 8) (pc' := 9) i191_7 rfl rfl <| ok_iloadn (pc' := 10) i191_9 rfl rfl <| ok_imul (v := (8 * x2)) (pc' := 11) i191_10 rfl rfl <| ok_iadd (v := (414 + (8 * x2))) (pc' := 12) i191_11 rfl rfl <| ok_iloadn (pc' := 13) i191_12 rfl rfl <| ok_iadd (v := ((414 + (8 * x2)) + 4)) (pc' := 14) i191_13 rfl rfl <| ok_iaload (v := (M (O + 5) ((414 + (8 * x2)) + 4))) (pc' := 15) i191_14 (ShModel_k5 hSO) (by decide) (ShModel_l5 hSO) (by omega) rfl rfl <| ok_ireti i191_15 rt191 <| ?_
    refine kt_v (pc' := 21) rfl <| ok_iadd (v := (x1 + (M (O + 5) ((414 + (8 * x2)) + 4)))) (pc' := 22) i192_21 rfl rfl <| ok_istoren (pc' := 23) (ls' := [aR O, aI (x1 + (M (O + 5) ((414 + (8 * x2)) + 4))), aI x2]) i192_22 (bt rfl) rfl rfl <| ok_iinc (pc' := 26) (v := (x2 + 1)) (ls' := [aR O, aI (x1 + (M (O + 5) ((414 + (8 * x2)) + 4))), aI (x2 + 1)]) i192_23 rfl rfl rfl rfl <| ok_goto (pc' := 4) i192_26 rfl <| ?_
    exact K3 h1
def f192 (M : AM) (O : Nat) (x2 x1 : Int) : Int := (x1 + (M (O + 5) ((414 + (8 * x2)) + 4)))
def r192 (M : AM) (O : Nat) : Int := (itv (f192 M O) 0 0 (M (O + 5) 4).toNat)
theorem t192 {g : AG} {M : AM} {O : Nat} (hSO : ShModel g O) (h0 : 0 ≤ M (O + 5) 4 ∧ M (O + 5) 4 ≤ 16) :
    Ok 1 192 0 [aR O, aU, aU] [] g M (Rt (some (aI (r192 M O))) g (fun M9 => M9 = M)) := by
  refine b192_0 hSO  ?_
  refine ok_for (lo := 0) (n := (M (O + 5) 4).toNat) (f := (f192 M O)) (a0 := 0) (fun i a => True) (fun i a ls => ls = [aR O, aI a, aI i]) ?_ ?_ ?_ _ rfl
  · trivial
  · rintro x2 x1 ls g1 g2 hinv rfl ih
    refine b192_4 hSO  (by omega) (by omega) (by omega) (fun h1 => by omega) (fun h1 => ?_)
    · have e : f192 M O x2 x1 = (x1 + (M (O + 5) ((414 + (8 * x2)) + 4))) := by unfold f192; rfl
      exact ih _ trivial (by rw [e])
  · rintro ls hinv rfl
    refine b192_4 hSO  (by omega) (by omega) (by omega) (fun h1 => ⟨rfl, rfl, rfl⟩) (fun h1 => by omega)
theorem b207_0 {Q : AO → AG → AM → Prop} {g : AG} {M : AM}  {O : Nat} {x1 : Int}  (hSO : ShModel g O)  
    (K1 : Ok 1 207 4 [aR O, aI x1, aI 0, aI 0] [] g M Q) :
    Ok 1 207 0 [aR O, aI x1, aU, aU] [] g M Q := by
  refine ok_iconst (pc' := 1) i207_0 rfl <| ok_istoren (pc' := 2) (ls' := [aR O, aI x1, aI 0, aU]) i207_1 (bt rfl) rfl rfl <| ok_iconst (pc' := 3) i207_2 rfl <| ok_istoren (pc' := 4) (ls' := [aR O, aI x1, aI 0, aI 0]) i207_3 (bt rfl) rfl rfl <| ?_
  exact K1
theorem b207_4 {Q : AO → AG → AM → Prop} {g : AG} {M : AM}  {O : Nat} {x1 x2 x3 : Int}  (hSO : ShModel g O)  (q0 : 0 ≤ x3) (q1 : -2147483648 ≤ x3 ∧ x3 < 2147483648) (q2 : 0 ≤ M (O + 5) 4 ∧ M (O + 5) 4 ≤ 16) (q3 : -2147483648 ≤ x1 ∧ x1 < 2147483648) (q4 : x3 < M (O + 5) 4 → -2147483648 ≤ M (O + 5) (414 + (8 * x3)) ∧ M (O + 5) (414 + (8 * x3)) < 2147483648)
    (K2 : (M (O + 5) 4) ≤ x3 → Q (.inl (some (aI x2))) g M)
    (K4 : x3 < (M (O + 5) 4) → (M (O + 5) (414 + (8 * x3))) ≠ x1 → Ok 1 207 4 [aR O, aI x1, aI x2, aI (x3 + 1)] [] g M Q)
    (K5 : x3 < (M (O + 5) 4) → (M (O + 5) (414 + (8 * x3))) = x1 → Ok 1 207 4 [aR O, aI x1, aI (x2 + (M (O + 5) ((414 + (8 * x3)) + 4))), aI (x3 + 1)] [] g M Q) :
    Ok 1 207 4 [aR O, aI x1, aI x2, aI x3] [] g M Q := by
  refine ok_iloadn (pc' := 5) i207_4 rfl rfl <| ok_aloadn (pc' := 6) i207_5 rfl rfl <| ok_getfr (r := (O + 5)) (pc' := 9) i207_6 o207 gr9_22 (ShModel_k0 hSO) (ShModel_r8 hSO) rfl <| ok_iconst (pc' := 10) i207_9 rfl <| ok_iaload (v := (M (O + 5) 4)) (pc' := 11) i207_10 (ShModel_k5 hSO) (by decide) (ShModel_l5 hSO) (by decide) rfl rfl <| ?_
  refine ok_cge (pc1 := 43) (pc2 := 14) i207_11 (by clear q4; omega) rfl rfl (fun h1 => ?_) (fun h1 => ?_)
  · refine ok_iloadn (pc' := 44) i207_43 rfl rfl <| ok_ireti i207_44 rt207 <| ?_
    exact K2 h1
  · refine ok_iloadn (pc' := 15) i207_14 rfl rfl <| ok_aloadn (pc' := 16) i207_15 rfl rfl <| ok_iloadn (pc' := 17) i207_16 rfl rfl <| ok_iconst (pc' := 18) i207_17 rfl <| ok_cc i207_18 rfl (cl_v o207 m9_226 na191 rfl rfl (bt rfl) (bt rfl) rfl (by rw [ShModel_k0 hSO, o191])) ln191 (pd191 (aR O) (aI x3) (aI 0)) <| ok_aloadn (pc' := 1) i191_0 rfl rfl <| ok_getfr (r := (O + 5)) (pc' := 4) i191_1 o191 gr9_22 (ShModel_k0 hSO) (ShModel_r8 hSO) rfl <| ok_sipush (v := 414) (pc' := 7) i191_4 rfl rfl <| ?_
    refine ok_bipush (v := 8) (pc' := 9) i191_7 rfl rfl <| ok_iloadn (pc' := 10) i191_9 rfl rfl <| ok_imul (v := (8 * x3)) (pc' := 11) i191_10 rfl rfl <| ok_iadd (v := (414 + (8 * x3))) (pc' := 12) i191_11 rfl rfl <| ok_iloadn (pc' := 13) i191_12 rfl rfl <| ok_iadd (v := (414 + (8 * x3))) (pc' := 14) i191_13 (by omega) rfl <| ok_iaload (v := (M (O + 5) (414 + (8 * x3)))) (pc' := 15) i191_14 (ShModel_k5 hSO) (by decide) (ShModel_l5 hSO) (by have z0 := q4 h1; clear q4; omega) rfl rfl <| ok_ireti i191_15 rt191 <| ?_
    refine kt_v (pc' := 21) rfl <| ok_iloadn (pc' := 22) i207_21 rfl rfl <| ?_
    refine ok_cne (pc1 := 34) (pc2 := 25) i207_22 ⟨(q4 h1).1, (q4 h1).2, q3.1, q3.2⟩ rfl rfl (fun h3 => ?_) (fun h3 => ?_)
    · refine ok_iconst (pc' := 35) i207_34 rfl <| ok_iadd (v := x2) (pc' := 36) i207_35 (by omega) rfl <| ok_istoren (pc' := 37) (ls' := [aR O, aI x1, aI x2, aI x3]) i207_36 (bt rfl) rfl rfl <| ok_iinc (pc' := 40) (v := (x3 + 1)) (ls' := [aR O, aI x1, aI x2, aI (x3 + 1)]) i207_37 rfl rfl rfl rfl <| ok_goto (pc' := 4) i207_40 rfl <| ?_
      exact K4 h1 h3
    · refine ok_aloadn (pc' := 26) i207_25 rfl rfl <| ok_iloadn (pc' := 27) i207_26 rfl rfl <| ok_iconst (pc' := 28) i207_27 rfl <| ok_cc i207_28 rfl (cl_v o207 m9_226 na191 rfl rfl (bt rfl) (bt rfl) rfl (by rw [ShModel_k0 hSO, o191])) ln191 (pd191 (aR O) (aI x3) (aI 4)) <| ok_aloadn (pc' := 1) i191_0 rfl rfl <| ok_getfr (r := (O + 5)) (pc' := 4) i191_1 o191 gr9_22 (ShModel_k0 hSO) (ShModel_r8 hSO) rfl <| ok_sipush (v := 414) (pc' := 7) i191_4 rfl rfl <| ok_bipush (v := 8) (pc' := 9) i191_7 rfl rfl <| ?_
      refine ok_iloadn (pc' := 10) i191_9 rfl rfl <| ok_imul (v := (8 * x3)) (pc' := 11) i191_10 rfl rfl <| ok_iadd (v := (414 + (8 * x3))) (pc' := 12) i191_11 rfl rfl <| ok_iloadn (pc' := 13) i191_12 rfl rfl <| ok_iadd (v := ((414 + (8 * x3)) + 4)) (pc' := 14) i191_13 rfl rfl <| ok_iaload (v := (M (O + 5) ((414 + (8 * x3)) + 4))) (pc' := 15) i191_14 (ShModel_k5 hSO) (by decide) (ShModel_l5 hSO) (by have z0 := q4 h1; clear q4; omega) rfl rfl <| ok_ireti i191_15 rt191 <| kt_v (pc' := 31) rfl <| ?_
      refine ok_goto (pc' := 35) i207_31 rfl <| ok_iadd (v := (x2 + (M (O + 5) ((414 + (8 * x3)) + 4)))) (pc' := 36) i207_35 rfl rfl <| ok_istoren (pc' := 37) (ls' := [aR O, aI x1, aI (x2 + (M (O + 5) ((414 + (8 * x3)) + 4))), aI x3]) i207_36 (bt rfl) rfl rfl <| ok_iinc (pc' := 40) (v := (x3 + 1)) (ls' := [aR O, aI x1, aI (x2 + (M (O + 5) ((414 + (8 * x3)) + 4))), aI (x3 + 1)]) i207_37 rfl rfl rfl rfl <| ok_goto (pc' := 4) i207_40 rfl <| ?_
      exact K5 h1 h3
def f207 (M : AM) (O : Nat) (x1 : Int) (x3 x2 : Int) : Int := (if (M (O + 5) (414 + (8 * x3))) ≠ x1 then x2 else (x2 + (M (O + 5) ((414 + (8 * x3)) + 4))))
def r207 (M : AM) (O : Nat) (x1 : Int) : Int := (itv (f207 M O x1) 0 0 (M (O + 5) 4).toNat)
theorem t207 {g : AG} {M : AM} {O : Nat} {x1 : Int} (hSO : ShModel g O) (h0 : 0 ≤ M (O + 5) 4 ∧ M (O + 5) 4 ≤ 16) (h1 : -2147483648 ≤ x1 ∧ x1 < 2147483648) (h9 : ∀ i : Int, 0 ≤ i → i < M (O + 5) 4 → -2147483648 ≤ M (O + 5) (414 + (8 * i)) ∧ M (O + 5) (414 + (8 * i)) < 2147483648) :
    Ok 1 207 0 [aR O, aI x1, aU, aU] [] g M (Rt (some (aI (r207 M O x1))) g (fun M9 => M9 = M)) := by
  refine b207_0 hSO  ?_
  refine ok_for (lo := 0) (n := (M (O + 5) 4).toNat) (f := (f207 M O x1)) (a0 := 0) (fun i a => True) (fun i a ls => ls = [aR O, aI x1, aI a, aI i]) ?_ ?_ ?_ _ rfl
  · trivial
  · rintro x3 x2 ls g1 g2 hinv rfl ih
    have r9 := h9 x3
    refine b207_4 hSO  (by omega) (by omega) (by omega) (by omega) (by omega) (fun h1 => by omega) (fun h1 h3 => ?_) (fun h1 h3 => ?_)
    · have e : f207 M O x1 x3 x2 = x2 := by unfold f207; rw [if_pos h3]
      exact ih _ trivial (by rw [e])
    · have e : f207 M O x1 x3 x2 = (x2 + (M (O + 5) ((414 + (8 * x3)) + 4))) := by unfold f207; rw [if_neg (by omega)]
      exact ih _ trivial (by rw [e])
  · rintro ls hinv rfl
    have r9 := h9 (0 + ((M (O + 5) 4).toNat : Nat))
    refine b207_4 hSO  (by omega) (by omega) (by omega) (by omega) (by omega) (fun h1 => ⟨rfl, rfl, rfl⟩) (fun h1 h3 => by omega) (fun h1 h3 => by omega)
theorem b213_0 {Q : AO → AG → AM → Prop} {g : AG} {M : AM}  {O : Nat} {x1 x2 : Int}  (hSO : ShModel g O)  
    (K1 : Ok 2 213 5 [aR O, aI x1, aI x2, aI (-1), aI 0, aU, aU] [] g M Q) :
    Ok 2 213 0 [aR O, aI x1, aI x2, aU, aU, aU, aU] [] g M Q := by
  refine ok_iconst (pc' := 1) i213_0 rfl <| ok_istoren (pc' := 2) (ls' := [aR O, aI x1, aI x2, aI (-1), aU, aU, aU]) i213_1 (bt rfl) rfl rfl <| ok_iconst (pc' := 3) i213_2 rfl <| ok_istore (pc' := 5) (ls' := [aR O, aI x1, aI x2, aI (-1), aI 0, aU, aU]) i213_3 (bt rfl) rfl rfl <| ?_
  exact K1
theorem b213_5 {Q : AO → AG → AM → Prop} {g : AG} {M : AM}  {O : Nat} {x1 x2 x3 x4 : Int} {w5 w6 : AV}  (hSO : ShModel g O) (hw5 : am_cat w5 = 1) (hw6 : am_cat w6 = 1) (q0 : 0 ≤ x4) (q1 : -2147483648 ≤ x4 ∧ x4 < 2147483648) (q2 : 0 ≤ M (O + 5) 3 ∧ M (O + 5) 3 ≤ 80) (q3 : -2147483648 ≤ x1 ∧ x1 < 2147483648) (q4 : -2147483648 ≤ x2 ∧ x2 < 2147483648) (q5 : x4 < M (O + 5) 3 → -2147483648 ≤ M (O + 5) (174 + x4) ∧ M (O + 5) (174 + x4) < 2147483648) (q6 : x4 < M (O + 5) 3 → -2147483648 ≤ M (O + 5) (94 + x4) ∧ M (O + 5) (94 + x4) < 2147483648) (q7 : -1 ≤ x3 ∧ x3 < 80) (q8 : x3 ≠ -1 → -2147483648 ≤ M (O + 5) (94 + x3) ∧ M (O + 5) (94 + x3) < 2147483648)
    (K2 : (M (O + 5) 3) ≤ x4 → Q (.inl (some (aI x3))) g M)
    (K4 : x4 < (M (O + 5) 3) → (M (O + 5) (174 + x4)) ≠ 0 → Ok 2 213 5 [aR O, aI x1, aI x2, aI x3, aI (x4 + 1), w5, w6] [] g M Q)
    (K6 : x4 < (M (O + 5) 3) → (M (O + 5) (174 + x4)) = 0 → (M (O + 5) (94 + x4)) < x1 → Ok 2 213 5 [aR O, aI x1, aI x2, aI x3, aI (x4 + 1), w5, w6] [] g M Q)
    (K8 : x4 < (M (O + 5) 3) → (M (O + 5) (174 + x4)) = 0 → x1 ≤ (M (O + 5) (94 + x4)) → x3 = (-1) → Ok 2 213 5 [aR O, aI x1, aI x2, aI x4, aI (x4 + 1), aI (M (O + 5) (94 + x4)), aI 1] [] g M Q)
    (K11 : x4 < (M (O + 5) 3) → (M (O + 5) (174 + x4)) = 0 → x1 ≤ (M (O + 5) (94 + x4)) → x3 ≠ (-1) → x2 ≠ 1 → x2 ≠ 2 → Ok 2 213 5 [aR O, aI x1, aI x2, aI x3, aI (x4 + 1), aI (M (O + 5) (94 + x4)), aI 0] [] g M Q)
    (K13 : x4 < (M (O + 5) 3) → (M (O + 5) (174 + x4)) = 0 → x1 ≤ (M (O + 5) (94 + x4)) → x3 ≠ (-1) → x2 ≠ 1 → x2 = 2 → (M (O + 5) (94 + x4)) ≤ (M (O + 5) (94 + x3)) → Ok 2 213 5 [aR O, aI x1, aI x2, aI x3, aI (x4 + 1), aI (M (O + 5) (94 + x4)), aI 0] [] g M Q)
    (K14 : x4 < (M (O + 5) 3) → (M (O + 5) (174 + x4)) = 0 → x1 ≤ (M (O + 5) (94 + x4)) → x3 ≠ (-1) → x2 ≠ 1 → x2 = 2 → (M (O + 5) (94 + x3)) < (M (O + 5) (94 + x4)) → Ok 2 213 5 [aR O, aI x1, aI x2, aI x4, aI (x4 + 1), aI (M (O + 5) (94 + x4)), aI 1] [] g M Q)
    (K16 : x4 < (M (O + 5) 3) → (M (O + 5) (174 + x4)) = 0 → x1 ≤ (M (O + 5) (94 + x4)) → x3 ≠ (-1) → x2 = 1 → (M (O + 5) (94 + x4)) < (M (O + 5) (94 + x3)) → Ok 2 213 5 [aR O, aI x1, aI x2, aI x4, aI (x4 + 1), aI (M (O + 5) (94 + x4)), aI 1] [] g M Q)
    (K18 : x4 < (M (O + 5) 3) → (M (O + 5) (174 + x4)) = 0 → x1 ≤ (M (O + 5) (94 + x4)) → x3 ≠ (-1) → x2 = 1 → (M (O + 5) (94 + x3)) ≤ (M (O + 5) (94 + x4)) → x2 ≠ 2 → Ok 2 213 5 [aR O, aI x1, aI x2, aI x3, aI (x4 + 1), aI (M (O + 5) (94 + x4)), aI 0] [] g M Q)
    (K20 : x4 < (M (O + 5) 3) → (M (O + 5) (174 + x4)) = 0 → x1 ≤ (M (O + 5) (94 + x4)) → x3 ≠ (-1) → x2 = 1 → (M (O + 5) (94 + x3)) ≤ (M (O + 5) (94 + x4)) → x2 = 2 → (M (O + 5) (94 + x4)) ≤ (M (O + 5) (94 + x3)) → Ok 2 213 5 [aR O, aI x1, aI x2, aI x3, aI (x4 + 1), aI (M (O + 5) (94 + x4)), aI 0] [] g M Q)
    (K21 : x4 < (M (O + 5) 3) → (M (O + 5) (174 + x4)) = 0 → x1 ≤ (M (O + 5) (94 + x4)) → x3 ≠ (-1) → x2 = 1 → (M (O + 5) (94 + x3)) ≤ (M (O + 5) (94 + x4)) → x2 = 2 → (M (O + 5) (94 + x3)) < (M (O + 5) (94 + x4)) → Ok 2 213 5 [aR O, aI x1, aI x2, aI x4, aI (x4 + 1), aI (M (O + 5) (94 + x4)), aI 1] [] g M Q) :
    Ok 2 213 5 [aR O, aI x1, aI x2, aI x3, aI x4, w5, w6] [] g M Q := by
  refine ok_iload (pc' := 7) i213_5 rfl rfl <| ok_aloadn (pc' := 8) i213_7 rfl rfl <| ok_getfr (r := (O + 5)) (pc' := 11) i213_8 o213 gr9_22 (ShModel_k0 hSO) (ShModel_r8 hSO) rfl <| ok_iconst (pc' := 12) i213_11 rfl <| ok_iaload (v := (M (O + 5) 3)) (pc' := 13) i213_12 (ShModel_k5 hSO) (by decide) (ShModel_l5 hSO) (by decide) rfl rfl <| ?_
  refine ok_cge (pc1 := 109) (pc2 := 16) i213_13 (by clear q5 q6 q8; omega) rfl rfl (fun h1 => ?_) (fun h1 => ?_)
  · refine ok_iloadn (pc' := 110) i213_109 rfl rfl <| ok_ireti i213_110 rt213 <| ?_
    exact K2 h1
  · refine ok_aloadn (pc' := 17) i213_16 rfl rfl <| ok_iload (pc' := 19) i213_17 rfl rfl <| ok_iloadn (pc' := 20) i213_19 rfl rfl <| ok_cc i213_20 rfl (cl_v o213 m9_259 na210 rfl rfl (bt rfl) (bt rfl) rfl (by rw [ShModel_k0 hSO, o210])) ln210 (pd210 (aR O) (aI x4) (aI x1)) <| ok_aloadn (pc' := 1) i210_0 rfl rfl <| ok_iloadn (pc' := 2) i210_1 rfl rfl <| ok_cc i210_2 rfl (cl_v o210 m9_229 na189 rfl rfl (bt rfl) (bt rfl) rfl (by rw [ShModel_k0 hSO, o189])) ln189 (pd189 (aR O) (aI x4)) <| ok_aloadn (pc' := 1) i189_0 rfl rfl <| ?_
    refine ok_getfr (r := (O + 5)) (pc' := 4) i189_1 o189 gr9_22 (ShModel_k0 hSO) (ShModel_r8 hSO) rfl <| ok_sipush (v := 174) (pc' := 7) i189_4 rfl rfl <| ok_iloadn (pc' := 8) i189_7 rfl rfl <| ok_iadd (v := (174 + x4)) (pc' := 9) i189_8 rfl rfl <| ok_iaload (v := (M (O + 5) (174 + x4))) (pc' := 10) i189_9 (ShModel_k5 hSO) (by decide) (ShModel_l5 hSO) (by have z0 := q5 h1; have z1 := q6 h1; clear q5 q6 q8; omega) rfl rfl <| ?_
    refine ok_zne (pc1 := 17) (pc2 := 13) i189_10 ⟨(q5 h1).1, (q5 h1).2⟩ rfl rfl (fun h3 => ?_) (fun h3 => ?_)
    · refine ok_iconst (pc' := 18) i189_17 rfl <| ok_iretz i189_18 rt189 (by decide) <| kt_v (pc' := 5) rfl <| ok_kz1 (pc1 := 25) (pc2 := 8) i210_5 (by decide) rfl rfl <| ok_iconst (pc' := 26) i210_25 rfl <| ok_iretz i210_26 rt210 (by decide) <| kt_v (pc' := 23) rfl <| ok_kz0 (pc1 := 29) (pc2 := 26) i213_23 (by decide) rfl rfl <| ?_
      refine ok_goto (pc' := 103) i213_26 rfl <| ok_iinc (pc' := 106) (v := (x4 + 1)) (ls' := [aR O, aI x1, aI x2, aI x3, aI (x4 + 1), w5, w6]) i213_103 rfl rfl rfl rfl <| ok_goto (pc' := 5) i213_106 rfl <| ?_
      exact K4 h1 h3
    · refine ok_iconst (pc' := 14) i189_13 rfl <| ok_goto (pc' := 18) i189_14 rfl <| ok_iretz i189_18 rt189 (by decide) <| kt_v (pc' := 5) rfl <| ok_kz0 (pc1 := 25) (pc2 := 8) i210_5 (by decide) rfl rfl <| ok_aloadn (pc' := 9) i210_8 rfl rfl <| ok_getfr (r := (O + 5)) (pc' := 12) i210_9 o210 gr9_22 (ShModel_k0 hSO) (ShModel_r8 hSO) rfl <| ok_bipush (v := 94) (pc' := 14) i210_12 rfl rfl <| ?_
      refine ok_iloadn (pc' := 15) i210_14 rfl rfl <| ok_iadd (v := (94 + x4)) (pc' := 16) i210_15 rfl rfl <| ok_iaload (v := (M (O + 5) (94 + x4))) (pc' := 17) i210_16 (ShModel_k5 hSO) (by decide) (ShModel_l5 hSO) (by have z0 := q5 h1; have z1 := q6 h1; clear q5 q6 q8; omega) rfl rfl <| ok_iloadn (pc' := 18) i210_17 rfl rfl <| ?_
      refine ok_clt (pc1 := 25) (pc2 := 21) i210_18 ⟨(q6 h1).1, (q6 h1).2, q3.1, q3.2⟩ rfl rfl (fun h5 => ?_) (fun h5 => ?_)
      · refine ok_iconst (pc' := 26) i210_25 rfl <| ok_iretz i210_26 rt210 (by decide) <| kt_v (pc' := 23) rfl <| ok_kz0 (pc1 := 29) (pc2 := 26) i213_23 (by decide) rfl rfl <| ok_goto (pc' := 103) i213_26 rfl <| ok_iinc (pc' := 106) (v := (x4 + 1)) (ls' := [aR O, aI x1, aI x2, aI x3, aI (x4 + 1), w5, w6]) i213_103 rfl rfl rfl rfl <| ok_goto (pc' := 5) i213_106 rfl <| ?_
        exact K6 h1 h3 h5
      · refine ok_iconst (pc' := 22) i210_21 rfl <| ok_goto (pc' := 26) i210_22 rfl <| ok_iretz i210_26 rt210 (by decide) <| kt_v (pc' := 23) rfl <| ok_kz1 (pc1 := 29) (pc2 := 26) i213_23 (by decide) rfl rfl <| ok_aloadn (pc' := 30) i213_29 rfl rfl <| ok_getfr (r := (O + 5)) (pc' := 33) i213_30 o213 gr9_22 (ShModel_k0 hSO) (ShModel_r8 hSO) rfl <| ok_bipush (v := 94) (pc' := 35) i213_33 rfl rfl <| ?_
        refine ok_iload (pc' := 37) i213_35 rfl rfl <| ok_iadd (v := (94 + x4)) (pc' := 38) i213_37 rfl rfl <| ok_iaload (v := (M (O + 5) (94 + x4))) (pc' := 39) i213_38 (ShModel_k5 hSO) (by decide) (ShModel_l5 hSO) (by have z0 := q5 h1; have z1 := q6 h1; clear q5 q6 q8; omega) rfl rfl <| ok_istore (pc' := 41) (ls' := [aR O, aI x1, aI x2, aI x3, aI x4, aI (M (O + 5) (94 + x4)), w6]) i213_39 (bt rfl) rfl rfl <| ok_iloadn (pc' := 42) i213_41 rfl rfl <| ok_iconst (pc' := 43) i213_42 rfl <| ?_
        refine ok_ceq (pc1 := 84) (pc2 := 46) i213_43 (by have z0 := q5 h1; have z1 := q6 h1; clear q5 q6 q8; omega) rfl rfl (fun h7 => ?_) (fun h7 => ?_)
        · refine ok_iconst (pc' := 85) i213_84 rfl <| ok_goto (pc' := 89) i213_85 rfl <| ok_istore (pc' := 91) (ls' := [aR O, aI x1, aI x2, aI x3, aI x4, aI (M (O + 5) (94 + x4)), aI 1]) i213_89 (bt rfl) rfl rfl <| ok_iload (pc' := 93) i213_91 rfl rfl <| ok_kz0 (pc1 := 101) (pc2 := 96) i213_93 (by decide) rfl rfl <| ok_iload (pc' := 98) i213_96 rfl rfl <| ok_goto (pc' := 102) i213_98 rfl <| ok_istoren (pc' := 103) (ls' := [aR O, aI x1, aI x2, aI x4, aI x4, aI (M (O + 5) (94 + x4)), aI 1]) i213_102 (bt rfl) rfl rfl <| ?_
          refine ok_iinc (pc' := 106) (v := (x4 + 1)) (ls' := [aR O, aI x1, aI x2, aI x4, aI (x4 + 1), aI (M (O + 5) (94 + x4)), aI 1]) i213_103 rfl rfl rfl rfl <| ok_goto (pc' := 5) i213_106 rfl <| ?_
          exact K8 h1 h3 h5 h7
        · refine ok_iloadn (pc' := 47) i213_46 rfl rfl <| ok_iconst (pc' := 48) i213_47 rfl <| ?_
          refine ok_cne (pc1 := 65) (pc2 := 51) i213_48 ⟨q4.1, q4.2, by decide, by decide⟩ rfl rfl (fun h9 => ?_) (fun h9 => ?_)
          · refine ok_iloadn (pc' := 66) i213_65 rfl rfl <| ok_iconst (pc' := 67) i213_66 rfl <| ?_
            refine ok_cne (pc1 := 88) (pc2 := 70) i213_67 ⟨q4.1, q4.2, by decide, by decide⟩ rfl rfl (fun h10 => ?_) (fun h10 => ?_)
            · refine ok_iconst (pc' := 89) i213_88 rfl <| ok_istore (pc' := 91) (ls' := [aR O, aI x1, aI x2, aI x3, aI x4, aI (M (O + 5) (94 + x4)), aI 0]) i213_89 (bt rfl) rfl rfl <| ok_iload (pc' := 93) i213_91 rfl rfl <| ok_kz1 (pc1 := 101) (pc2 := 96) i213_93 (by decide) rfl rfl <| ok_iloadn (pc' := 102) i213_101 rfl rfl <| ok_istoren (pc' := 103) (ls' := [aR O, aI x1, aI x2, aI x3, aI x4, aI (M (O + 5) (94 + x4)), aI 0]) i213_102 (bt rfl) rfl rfl <| ok_iinc (pc' := 106) (v := (x4 + 1)) (ls' := [aR O, aI x1, aI x2, aI x3, aI (x4 + 1), aI (M (O + 5) (94 + x4)), aI 0]) i213_103 rfl rfl rfl rfl <| ok_goto (pc' := 5) i213_106 rfl <| ?_
              exact K11 h1 h3 h5 h7 h9 h10
            · refine ok_iload (pc' := 72) i213_70 rfl rfl <| ok_aloadn (pc' := 73) i213_72 rfl rfl <| ok_getfr (r := (O + 5)) (pc' := 76) i213_73 o213 gr9_22 (ShModel_k0 hSO) (ShModel_r8 hSO) rfl <| ok_bipush (v := 94) (pc' := 78) i213_76 rfl rfl <| ok_iloadn (pc' := 79) i213_78 rfl rfl <| ok_iadd (v := (94 + x3)) (pc' := 80) i213_79 rfl rfl <| ok_iaload (v := (M (O + 5) (94 + x3))) (pc' := 81) i213_80 (ShModel_k5 hSO) (by decide) (ShModel_l5 hSO) (by have z0 := q5 h1; have z1 := q6 h1; have z2 := q8 h7; clear q5 q6 q8; omega) rfl rfl <| ?_
              refine ok_cle (pc1 := 88) (pc2 := 84) i213_81 ⟨(q6 h1).1, (q6 h1).2, (q8 h7).1, (q8 h7).2⟩ rfl rfl (fun h12 => ?_) (fun h12 => ?_)
              · refine ok_iconst (pc' := 89) i213_88 rfl <| ok_istore (pc' := 91) (ls' := [aR O, aI x1, aI x2, aI x3, aI x4, aI (M (O + 5) (94 + x4)), aI 0]) i213_89 (bt rfl) rfl rfl <| ok_iload (pc' := 93) i213_91 rfl rfl <| ok_kz1 (pc1 := 101) (pc2 := 96) i213_93 (by decide) rfl rfl <| ok_iloadn (pc' := 102) i213_101 rfl rfl <| ok_istoren (pc' := 103) (ls' := [aR O, aI x1, aI x2, aI x3, aI x4, aI (M (O + 5) (94 + x4)), aI 0]) i213_102 (bt rfl) rfl rfl <| ok_iinc (pc' := 106) (v := (x4 + 1)) (ls' := [aR O, aI x1, aI x2, aI x3, aI (x4 + 1), aI (M (O + 5) (94 + x4)), aI 0]) i213_103 rfl rfl rfl rfl <| ok_goto (pc' := 5) i213_106 rfl <| ?_
                exact K13 h1 h3 h5 h7 h9 h10 h12
              · refine ok_iconst (pc' := 85) i213_84 rfl <| ok_goto (pc' := 89) i213_85 rfl <| ok_istore (pc' := 91) (ls' := [aR O, aI x1, aI x2, aI x3, aI x4, aI (M (O + 5) (94 + x4)), aI 1]) i213_89 (bt rfl) rfl rfl <| ok_iload (pc' := 93) i213_91 rfl rfl <| ok_kz0 (pc1 := 101) (pc2 := 96) i213_93 (by decide) rfl rfl <| ok_iload (pc' := 98) i213_96 rfl rfl <| ok_goto (pc' := 102) i213_98 rfl <| ok_istoren (pc' := 103) (ls' := [aR O, aI x1, aI x2, aI x4, aI x4, aI (M (O + 5) (94 + x4)), aI 1]) i213_102 (bt rfl) rfl rfl <| ?_
                refine ok_iinc (pc' := 106) (v := (x4 + 1)) (ls' := [aR O, aI x1, aI x2, aI x4, aI (x4 + 1), aI (M (O + 5) (94 + x4)), aI 1]) i213_103 rfl rfl rfl rfl <| ok_goto (pc' := 5) i213_106 rfl <| ?_
                exact K14 h1 h3 h5 h7 h9 h10 h12
          · refine ok_iload (pc' := 53) i213_51 rfl rfl <| ok_aloadn (pc' := 54) i213_53 rfl rfl <| ok_getfr (r := (O + 5)) (pc' := 57) i213_54 o213 gr9_22 (ShModel_k0 hSO) (ShModel_r8 hSO) rfl <| ok_bipush (v := 94) (pc' := 59) i213_57 rfl rfl <| ok_iloadn (pc' := 60) i213_59 rfl rfl <| ok_iadd (v := (94 + x3)) (pc' := 61) i213_60 rfl rfl <| ok_iaload (v := (M (O + 5) (94 + x3))) (pc' := 62) i213_61 (ShModel_k5 hSO) (by decide) (ShModel_l5 hSO) (by have z0 := q5 h1; have z1 := q6 h1; have z2 := q8 h7; clear q5 q6 q8; omega) rfl rfl <| ?_
            refine ok_clt (pc1 := 84) (pc2 := 65) i213_62 ⟨(q6 h1).1, (q6 h1).2, (q8 h7).1, (q8 h7).2⟩ rfl rfl (fun h15 => ?_) (fun h15 => ?_)
            · refine ok_iconst (pc' := 85) i213_84 rfl <| ok_goto (pc' := 89) i213_85 rfl <| ok_istore (pc' := 91) (ls' := [aR O, aI x1, aI x2, aI x3, aI x4, aI (M (O + 5) (94 + x4)), aI 1]) i213_89 (bt rfl) rfl rfl <| ok_iload (pc' := 93) i213_91 rfl rfl <| ok_kz0 (pc1 := 101) (pc2 := 96) i213_93 (by decide) rfl rfl <| ok_iload (pc' := 98) i213_96 rfl rfl <| ok_goto (pc' := 102) i213_98 rfl <| ok_istoren (pc' := 103) (ls' := [aR O, aI x1, aI x2, aI x4, aI x4, aI (M (O + 5) (94 + x4)), aI 1]) i213_102 (bt rfl) rfl rfl <| ?_
              refine ok_iinc (pc' := 106) (v := (x4 + 1)) (ls' := [aR O, aI x1, aI x2, aI x4, aI (x4 + 1), aI (M (O + 5) (94 + x4)), aI 1]) i213_103 rfl rfl rfl rfl <| ok_goto (pc' := 5) i213_106 rfl <| ?_
              exact K16 h1 h3 h5 h7 h9 h15
            · refine ok_iloadn (pc' := 66) i213_65 rfl rfl <| ok_iconst (pc' := 67) i213_66 rfl <| ?_
              refine ok_cne (pc1 := 88) (pc2 := 70) i213_67 ⟨q4.1, q4.2, by decide, by decide⟩ rfl rfl (fun h17 => ?_) (fun h17 => ?_)
              · refine ok_iconst (pc' := 89) i213_88 rfl <| ok_istore (pc' := 91) (ls' := [aR O, aI x1, aI x2, aI x3, aI x4, aI (M (O + 5) (94 + x4)), aI 0]) i213_89 (bt rfl) rfl rfl <| ok_iload (pc' := 93) i213_91 rfl rfl <| ok_kz1 (pc1 := 101) (pc2 := 96) i213_93 (by decide) rfl rfl <| ok_iloadn (pc' := 102) i213_101 rfl rfl <| ok_istoren (pc' := 103) (ls' := [aR O, aI x1, aI x2, aI x3, aI x4, aI (M (O + 5) (94 + x4)), aI 0]) i213_102 (bt rfl) rfl rfl <| ok_iinc (pc' := 106) (v := (x4 + 1)) (ls' := [aR O, aI x1, aI x2, aI x3, aI (x4 + 1), aI (M (O + 5) (94 + x4)), aI 0]) i213_103 rfl rfl rfl rfl <| ok_goto (pc' := 5) i213_106 rfl <| ?_
                exact K18 h1 h3 h5 h7 h9 h15 h17
              · refine ok_iload (pc' := 72) i213_70 rfl rfl <| ok_aloadn (pc' := 73) i213_72 rfl rfl <| ok_getfr (r := (O + 5)) (pc' := 76) i213_73 o213 gr9_22 (ShModel_k0 hSO) (ShModel_r8 hSO) rfl <| ok_bipush (v := 94) (pc' := 78) i213_76 rfl rfl <| ok_iloadn (pc' := 79) i213_78 rfl rfl <| ok_iadd (v := (94 + x3)) (pc' := 80) i213_79 rfl rfl <| ok_iaload (v := (M (O + 5) (94 + x3))) (pc' := 81) i213_80 (ShModel_k5 hSO) (by decide) (ShModel_l5 hSO) (by have z0 := q5 h1; have z1 := q6 h1; have z2 := q8 h7; clear q5 q6 q8; omega) rfl rfl <| ?_
                refine ok_cle (pc1 := 88) (pc2 := 84) i213_81 ⟨(q6 h1).1, (q6 h1).2, (q8 h7).1, (q8 h7).2⟩ rfl rfl (fun h19 => ?_) (fun h19 => ?_)
                · refine ok_iconst (pc' := 89) i213_88 rfl <| ok_istore (pc' := 91) (ls' := [aR O, aI x1, aI x2, aI x3, aI x4, aI (M (O + 5) (94 + x4)), aI 0]) i213_89 (bt rfl) rfl rfl <| ok_iload (pc' := 93) i213_91 rfl rfl <| ok_kz1 (pc1 := 101) (pc2 := 96) i213_93 (by decide) rfl rfl <| ok_iloadn (pc' := 102) i213_101 rfl rfl <| ok_istoren (pc' := 103) (ls' := [aR O, aI x1, aI x2, aI x3, aI x4, aI (M (O + 5) (94 + x4)), aI 0]) i213_102 (bt rfl) rfl rfl <| ok_iinc (pc' := 106) (v := (x4 + 1)) (ls' := [aR O, aI x1, aI x2, aI x3, aI (x4 + 1), aI (M (O + 5) (94 + x4)), aI 0]) i213_103 rfl rfl rfl rfl <| ok_goto (pc' := 5) i213_106 rfl <| ?_
                  exact K20 h1 h3 h5 h7 h9 h15 h17 h19
                · refine ok_iconst (pc' := 85) i213_84 rfl <| ok_goto (pc' := 89) i213_85 rfl <| ok_istore (pc' := 91) (ls' := [aR O, aI x1, aI x2, aI x3, aI x4, aI (M (O + 5) (94 + x4)), aI 1]) i213_89 (bt rfl) rfl rfl <| ok_iload (pc' := 93) i213_91 rfl rfl <| ok_kz0 (pc1 := 101) (pc2 := 96) i213_93 (by decide) rfl rfl <| ok_iload (pc' := 98) i213_96 rfl rfl <| ok_goto (pc' := 102) i213_98 rfl <| ok_istoren (pc' := 103) (ls' := [aR O, aI x1, aI x2, aI x4, aI x4, aI (M (O + 5) (94 + x4)), aI 1]) i213_102 (bt rfl) rfl rfl <| ?_
                  refine ok_iinc (pc' := 106) (v := (x4 + 1)) (ls' := [aR O, aI x1, aI x2, aI x4, aI (x4 + 1), aI (M (O + 5) (94 + x4)), aI 1]) i213_103 rfl rfl rfl rfl <| ok_goto (pc' := 5) i213_106 rfl <| ?_
                  exact K21 h1 h3 h5 h7 h9 h15 h17 h19
def f213 (M : AM) (O : Nat) (x1 x2 : Int) (x4 x3 : Int) : Int := (if (M (O + 5) (174 + x4)) ≠ 0 then x3 else (if (M (O + 5) (94 + x4)) < x1 then x3 else (if x3 = (-1) then x4 else (if x2 ≠ 1 then (if x2 ≠ 2 then x3 else (if (M (O + 5) (94 + x4)) ≤ (M (O + 5) (94 + x3)) then x3 else x4)) else (if (M (O + 5) (94 + x4)) < (M (O + 5) (94 + x3)) then x4 else (if x2 ≠ 2 then x3 else (if (M (O + 5) (94 + x4)) ≤ (M (O + 5) (94 + x3)) then x3 else x4)))))))
def r213 (M : AM) (O : Nat) (x1 x2 : Int) : Int := (itv (f213 M O x1 x2) (-1) 0 (M (O + 5) 3).toNat)
theorem t213 {g : AG} {M : AM} {O : Nat} {x1 x2 : Int} (hSO : ShModel g O) (h0 : 0 ≤ M (O + 5) 3 ∧ M (O + 5) 3 ≤ 80) (h1 : -2147483648 ≤ x1 ∧ x1 < 2147483648) (h2 : -2147483648 ≤ x2 ∧ x2 < 2147483648) (h4 : ∀ i : Int, 0 ≤ i → i < M (O + 5) 3 → -2147483648 ≤ M (O + 5) (94 + i) ∧ M (O + 5) (94 + i) < 2147483648) (h6 : ∀ i : Int, 0 ≤ i → i < M (O + 5) 3 → -2147483648 ≤ M (O + 5) (174 + i) ∧ M (O + 5) (174 + i) < 2147483648) :
    Ok 2 213 0 [aR O, aI x1, aI x2, aU, aU, aU, aU] [] g M (Rt (some (aI (r213 M O x1 x2))) g (fun M9 => M9 = M)) := by
  refine b213_0 hSO  ?_
  refine ok_for (lo := 0) (n := (M (O + 5) 3).toNat) (f := (f213 M O x1 x2)) (a0 := (-1)) (fun i a => -1 ≤ a ∧ a < i ∧ i ≤ M (O + 5) 3) (fun i a ls => ∃ w5 w6 : AV, am_cat w5 = 1 ∧ am_cat w6 = 1 ∧ ls = [aR O, aI x1, aI x2, aI a, aI i, w5, w6]) ?_ ?_ ?_ _ ⟨aU, aU, rfl, rfl, rfl⟩
  · omega
  · rintro x4 x3 ls g1 g2 hinv ⟨w5, w6, hw5, hw6, rfl⟩ ih
    have r4 := h4 x4
    have r6 := h6 x4
    have r3 := h4 x3
    refine b213_5 hSO hw5 hw6 (by omega) (by omega) (by omega) (by omega) (by omega) (by omega) (by omega) (by omega) (by omega) (fun h1 => by omega) (fun h1 h3 => ?_) (fun h1 h3 h5 => ?_) (fun h1 h3 h5 h7 => ?_) (fun h1 h3 h5 h7 h9 h10 => ?_) (fun h1 h3 h5 h7 h9 h10 h12 => ?_) (fun h1 h3 h5 h7 h9 h10 h12 => ?_) (fun h1 h3 h5 h7 h9 h15 => ?_) (fun h1 h3 h5 h7 h9 h15 h17 => ?_) (fun h1 h3 h5 h7 h9 h15 h17 h19 => ?_) (fun h1 h3 h5 h7 h9 h15 h17 h19 => ?_)
    · have e : f213 M O x1 x2 x4 x3 = x3 := by unfold f213; rw [if_pos h3]
      exact ih _ (by rw [e]; omega) (by rw [e]; exact ⟨_, _, hw5, hw6, rfl⟩)
    · have e : f213 M O x1 x2 x4 x3 = x3 := by unfold f213; rw [if_neg (by omega), if_pos h5]
      exact ih _ (by rw [e]; omega) (by rw [e]; exact ⟨_, _, hw5, hw6, rfl⟩)
    · have e : f213 M O x1 x2 x4 x3 = x4 := by unfold f213; rw [if_neg (by omega), if_neg (by omega), if_pos h7]
      exact ih _ (by rw [e]; omega) (by rw [e]; exact ⟨_, _, rfl, rfl, rfl⟩)
    · have e : f213 M O x1 x2 x4 x3 = x3 := by unfold f213; rw [if_neg (by omega), if_neg (by omega), if_neg (by omega), if_pos h9, if_pos h10]
      exact ih _ (by rw [e]; omega) (by rw [e]; exact ⟨_, _, rfl, rfl, rfl⟩)
    · have e : f213 M O x1 x2 x4 x3 = x3 := by unfold f213; rw [if_neg (by omega), if_neg (by omega), if_neg (by omega), if_pos h9, if_neg (by omega), if_pos h12]
      exact ih _ (by rw [e]; omega) (by rw [e]; exact ⟨_, _, rfl, rfl, rfl⟩)
    · have e : f213 M O x1 x2 x4 x3 = x4 := by unfold f213; rw [if_neg (by omega), if_neg (by omega), if_neg (by omega), if_pos h9, if_neg (by omega), if_neg (by omega)]
      exact ih _ (by rw [e]; omega) (by rw [e]; exact ⟨_, _, rfl, rfl, rfl⟩)
    · have e : f213 M O x1 x2 x4 x3 = x4 := by unfold f213; rw [if_neg (by omega), if_neg (by omega), if_neg (by omega), if_neg (by omega), if_pos h15]
      exact ih _ (by rw [e]; omega) (by rw [e]; exact ⟨_, _, rfl, rfl, rfl⟩)
    · have e : f213 M O x1 x2 x4 x3 = x3 := by unfold f213; rw [if_neg (by omega), if_neg (by omega), if_neg (by omega), if_neg (by omega), if_neg (by omega), if_pos h17]
      exact ih _ (by rw [e]; omega) (by rw [e]; exact ⟨_, _, rfl, rfl, rfl⟩)
    · have e : f213 M O x1 x2 x4 x3 = x3 := by unfold f213; rw [if_neg (by omega), if_neg (by omega), if_neg (by omega), if_neg (by omega), if_neg (by omega), if_neg (by omega), if_pos h19]
      exact ih _ (by rw [e]; omega) (by rw [e]; exact ⟨_, _, rfl, rfl, rfl⟩)
    · have e : f213 M O x1 x2 x4 x3 = x4 := by unfold f213; rw [if_neg (by omega), if_neg (by omega), if_neg (by omega), if_neg (by omega), if_neg (by omega), if_neg (by omega), if_neg (by omega)]
      exact ih _ (by rw [e]; omega) (by rw [e]; exact ⟨_, _, rfl, rfl, rfl⟩)
  · rintro ls hinv ⟨w5, w6, hw5, hw6, rfl⟩
    have r4 := h4 (0 + ((M (O + 5) 3).toNat : Nat))
    have r6 := h6 (0 + ((M (O + 5) 3).toNat : Nat))
    have r3 := h4 (itv (f213 M O x1 x2) (-1) 0 (M (O + 5) 3).toNat)
    refine b213_5 hSO hw5 hw6 (by omega) (by omega) (by omega) (by omega) (by omega) (by omega) (by omega) (by omega) (by omega) (fun h1 => ⟨rfl, rfl, rfl⟩) (fun h1 h3 => by omega) (fun h1 h3 h5 => by omega) (fun h1 h3 h5 h7 => by omega) (fun h1 h3 h5 h7 h9 h10 => by omega) (fun h1 h3 h5 h7 h9 h10 h12 => by omega) (fun h1 h3 h5 h7 h9 h10 h12 => by omega) (fun h1 h3 h5 h7 h9 h15 => by omega) (fun h1 h3 h5 h7 h9 h15 h17 => by omega) (fun h1 h3 h5 h7 h9 h15 h17 h19 => by omega) (fun h1 h3 h5 h7 h9 h15 h17 h19 => by omega)
theorem b218_0 {Q : AO → AG → AM → Prop} {g : AG} {M : AM}  {O : Nat} {x1 : Int}  (hSO : ShModel g O)  
    (K1 : Ok 2 218 4 [aR O, aI x1, aI (-1), aI 0, aU] [] g M Q) :
    Ok 2 218 0 [aR O, aI x1, aU, aU, aU] [] g M Q := by
  refine ok_iconst (pc' := 1) i218_0 rfl <| ok_istoren (pc' := 2) (ls' := [aR O, aI x1, aI (-1), aU, aU]) i218_1 (bt rfl) rfl rfl <| ok_iconst (pc' := 3) i218_2 rfl <| ok_istoren (pc' := 4) (ls' := [aR O, aI x1, aI (-1), aI 0, aU]) i218_3 (bt rfl) rfl rfl <| ?_
  exact K1
theorem b218_4 {Q : AO → AG → AM → Prop} {g : AG} {M : AM}  {O : Nat} {x1 x2 x3 : Int} {w4 : AV}  (hSO : ShModel g O) (hw4 : am_cat w4 = 1) (q0 : 0 ≤ x3) (q1 : -2147483648 ≤ x3 ∧ x3 < 2147483648) (q2 : 0 ≤ M (O + 5) 4 ∧ M (O + 5) 4 ≤ 16) (q3 : -2147483648 ≤ x1 ∧ x1 < 2147483648) (q4 : x3 < M (O + 5) 4 → -2147483648 ≤ M (O + 5) (414 + (8 * x3)) ∧ M (O + 5) (414 + (8 * x3)) < 2147483648) (q5 : x3 < M (O + 5) 4 → -2147483648 ≤ M (O + 5) (414 + (8 * x3) + 3) ∧ M (O + 5) (414 + (8 * x3) + 3) < 2147483648) (q6 : x3 < M (O + 5) 4 → -2147483648 ≤ M (O + 5) (414 + (8 * x3) + 4) ∧ M (O + 5) (414 + (8 * x3) + 4) < 2147483648) (q7 : -1 ≤ x2 ∧ x2 < 16) (q8 : x2 ≠ -1 → -2147483648 ≤ M (O + 5) (414 + (8 * x2) + 3) ∧ M (O + 5) (414 + (8 * x2) + 3) < 2147483648)
    (K2 : (M (O + 5) 4) ≤ x3 → Q (.inl (some (aI x2))) g M)
    (K4 : x3 < (M (O + 5) 4) → (M (O + 5) ((414 + (8 * x3)) + 4)) ≤ 0 → Ok 2 218 4 [aR O, aI x1, aI x2, aI (x3 + 1), aI 0] [] g M Q)
    (K7 : x3 < (M (O + 5) 4) → 0 < (M (O + 5) ((414 + (8 * x3)) + 4)) → x1 = 0 → x2 = (-1) → Ok 2 218 4 [aR O, aI x1, aI x3, aI (x3 + 1), aI 1] [] g M Q)
    (K9 : x3 < (M (O + 5) 4) → 0 < (M (O + 5) ((414 + (8 * x3)) + 4)) → x1 = 0 → x2 ≠ (-1) → (M (O + 5) ((414 + (8 * x2)) + 3)) ≤ (M (O + 5) ((414 + (8 * x3)) + 3)) → Ok 2 218 4 [aR O, aI x1, aI x2, aI (x3 + 1), aI 1] [] g M Q)
    (K10 : x3 < (M (O + 5) 4) → 0 < (M (O + 5) ((414 + (8 * x3)) + 4)) → x1 = 0 → x2 ≠ (-1) → (M (O + 5) ((414 + (8 * x3)) + 3)) < (M (O + 5) ((414 + (8 * x2)) + 3)) → Ok 2 218 4 [aR O, aI x1, aI x3, aI (x3 + 1), aI 1] [] g M Q)
    (K12 : x3 < (M (O + 5) 4) → 0 < (M (O + 5) ((414 + (8 * x3)) + 4)) → x1 ≠ 0 → (M (O + 5) (414 + (8 * x3))) ≠ x1 → Ok 2 218 4 [aR O, aI x1, aI x2, aI (x3 + 1), aI 0] [] g M Q)
    (K14 : x3 < (M (O + 5) 4) → 0 < (M (O + 5) ((414 + (8 * x3)) + 4)) → x1 ≠ 0 → (M (O + 5) (414 + (8 * x3))) = x1 → x2 = (-1) → Ok 2 218 4 [aR O, aI x1, aI x3, aI (x3 + 1), aI 1] [] g M Q)
    (K16 : x3 < (M (O + 5) 4) → 0 < (M (O + 5) ((414 + (8 * x3)) + 4)) → x1 ≠ 0 → (M (O + 5) (414 + (8 * x3))) = x1 → x2 ≠ (-1) → (M (O + 5) ((414 + (8 * x2)) + 3)) ≤ (M (O + 5) ((414 + (8 * x3)) + 3)) → Ok 2 218 4 [aR O, aI x1, aI x2, aI (x3 + 1), aI 1] [] g M Q)
    (K17 : x3 < (M (O + 5) 4) → 0 < (M (O + 5) ((414 + (8 * x3)) + 4)) → x1 ≠ 0 → (M (O + 5) (414 + (8 * x3))) = x1 → x2 ≠ (-1) → (M (O + 5) ((414 + (8 * x3)) + 3)) < (M (O + 5) ((414 + (8 * x2)) + 3)) → Ok 2 218 4 [aR O, aI x1, aI x3, aI (x3 + 1), aI 1] [] g M Q) :
    Ok 2 218 4 [aR O, aI x1, aI x2, aI x3, w4] [] g M Q := by
  refine ok_iloadn (pc' := 5) i218_4 rfl rfl <| ok_aloadn (pc' := 6) i218_5 rfl rfl <| ok_getfr (r := (O + 5)) (pc' := 9) i218_6 o218 gr9_22 (ShModel_k0 hSO) (ShModel_r8 hSO) rfl <| ok_iconst (pc' := 10) i218_9 rfl <| ok_iaload (v := (M (O + 5) 4)) (pc' := 11) i218_10 (ShModel_k5 hSO) (by decide) (ShModel_l5 hSO) (by decide) rfl rfl <| ?_
  refine ok_cge (pc1 := 80) (pc2 := 14) i218_11 (by clear q4 q5 q6 q8; omega) rfl rfl (fun h1 => ?_) (fun h1 => ?_)
  · refine ok_iloadn (pc' := 81) i218_80 rfl rfl <| ok_ireti i218_81 rt218 <| ?_
    exact K2 h1
  · refine ok_aloadn (pc' := 15) i218_14 rfl rfl <| ok_iloadn (pc' := 16) i218_15 rfl rfl <| ok_cc i218_16 rfl (cl_v o218 m9_232 na190 rfl rfl (bt rfl) (bt rfl) rfl (by rw [ShModel_k0 hSO, o190])) ln190 (pd190 (aR O) (aI x3)) <| ok_aloadn (pc' := 1) i190_0 rfl rfl <| ok_iloadn (pc' := 2) i190_1 rfl rfl <| ok_iconst (pc' := 3) i190_2 rfl <| ok_cc i190_3 rfl (cl_v o190 m9_226 na191 rfl rfl (bt rfl) (bt rfl) rfl (by rw [ShModel_k0 hSO, o191])) ln191 (pd191 (aR O) (aI x3) (aI 4)) <| ok_aloadn (pc' := 1) i191_0 rfl rfl <| ?_
    refine ok_getfr (r := (O + 5)) (pc' := 4) i191_1 o191 gr9_22 (ShModel_k0 hSO) (ShModel_r8 hSO) rfl <| ok_sipush (v := 414) (pc' := 7) i191_4 rfl rfl <| ok_bipush (v := 8) (pc' := 9) i191_7 rfl rfl <| ok_iloadn (pc' := 10) i191_9 rfl rfl <| ok_imul (v := (8 * x3)) (pc' := 11) i191_10 rfl rfl <| ok_iadd (v := (414 + (8 * x3))) (pc' := 12) i191_11 rfl rfl <| ok_iloadn (pc' := 13) i191_12 rfl rfl <| ok_iadd (v := ((414 + (8 * x3)) + 4)) (pc' := 14) i191_13 rfl rfl <| ?_
    refine ok_iaload (v := (M (O + 5) ((414 + (8 * x3)) + 4))) (pc' := 15) i191_14 (ShModel_k5 hSO) (by decide) (ShModel_l5 hSO) (by have z0 := q4 h1; have z1 := q5 h1; have z2 := q6 h1; clear q4 q5 q6 q8; omega) rfl rfl <| ok_ireti i191_15 rt191 <| kt_v (pc' := 6) rfl <| ?_
    refine ok_zle (pc1 := 13) (pc2 := 9) i190_6 ⟨(q6 h1).1, (q6 h1).2⟩ rfl rfl (fun h3 => ?_) (fun h3 => ?_)
    · refine ok_iconst (pc' := 14) i190_13 rfl <| ok_iretz i190_14 rt190 (by decide) <| kt_v (pc' := 19) rfl <| ok_kz1 (pc1 := 40) (pc2 := 22) i218_19 (by decide) rfl rfl <| ok_iconst (pc' := 41) i218_40 rfl <| ok_istore (pc' := 43) (ls' := [aR O, aI x1, aI x2, aI x3, aI 0]) i218_41 (bt rfl) rfl rfl <| ok_iload (pc' := 45) i218_43 rfl rfl <| ok_kz1 (pc1 := 72) (pc2 := 48) i218_45 (by decide) rfl rfl <| ?_
      refine ok_iloadn (pc' := 73) i218_72 rfl rfl <| ok_istoren (pc' := 74) (ls' := [aR O, aI x1, aI x2, aI x3, aI 0]) i218_73 (bt rfl) rfl rfl <| ok_iinc (pc' := 77) (v := (x3 + 1)) (ls' := [aR O, aI x1, aI x2, aI (x3 + 1), aI 0]) i218_74 rfl rfl rfl rfl <| ok_goto (pc' := 4) i218_77 rfl <| ?_
      exact K4 h1 h3
    · refine ok_iconst (pc' := 10) i190_9 rfl <| ok_goto (pc' := 14) i190_10 rfl <| ok_iretz i190_14 rt190 (by decide) <| kt_v (pc' := 19) rfl <| ok_kz0 (pc1 := 40) (pc2 := 22) i218_19 (by decide) rfl rfl <| ok_iloadn (pc' := 23) i218_22 rfl rfl <| ?_
      refine ok_zeq (pc1 := 36) (pc2 := 26) i218_23 ⟨q3.1, q3.2⟩ rfl rfl (fun h5 => ?_) (fun h5 => ?_)
      · refine ok_iconst (pc' := 37) i218_36 rfl <| ok_goto (pc' := 41) i218_37 rfl <| ok_istore (pc' := 43) (ls' := [aR O, aI x1, aI x2, aI x3, aI 1]) i218_41 (bt rfl) rfl rfl <| ok_iload (pc' := 45) i218_43 rfl rfl <| ok_kz0 (pc1 := 72) (pc2 := 48) i218_45 (by decide) rfl rfl <| ok_iloadn (pc' := 49) i218_48 rfl rfl <| ok_iconst (pc' := 50) i218_49 rfl <| ?_
        refine ok_ceq (pc1 := 68) (pc2 := 53) i218_50 (by have z0 := q4 h1; have z1 := q5 h1; have z2 := q6 h1; clear q4 q5 q6 q8; omega) rfl rfl (fun h6 => ?_) (fun h6 => ?_)
        · refine ok_iloadn (pc' := 69) i218_68 rfl rfl <| ok_goto (pc' := 73) i218_69 rfl <| ok_istoren (pc' := 74) (ls' := [aR O, aI x1, aI x3, aI x3, aI 1]) i218_73 (bt rfl) rfl rfl <| ok_iinc (pc' := 77) (v := (x3 + 1)) (ls' := [aR O, aI x1, aI x3, aI (x3 + 1), aI 1]) i218_74 rfl rfl rfl rfl <| ok_goto (pc' := 4) i218_77 rfl <| ?_
          exact K7 h1 h3 h5 h6
        · refine ok_aloadn (pc' := 54) i218_53 rfl rfl <| ok_iloadn (pc' := 55) i218_54 rfl rfl <| ok_iconst (pc' := 56) i218_55 rfl <| ok_cc i218_56 rfl (cl_v o218 m9_226 na191 rfl rfl (bt rfl) (bt rfl) rfl (by rw [ShModel_k0 hSO, o191])) ln191 (pd191 (aR O) (aI x3) (aI 3)) <| ok_aloadn (pc' := 1) i191_0 rfl rfl <| ok_getfr (r := (O + 5)) (pc' := 4) i191_1 o191 gr9_22 (ShModel_k0 hSO) (ShModel_r8 hSO) rfl <| ok_sipush (v := 414) (pc' := 7) i191_4 rfl rfl <| ok_bipush (v := 8) (pc' := 9) i191_7 rfl rfl <| ?_
          refine ok_iloadn (pc' := 10) i191_9 rfl rfl <| ok_imul (v := (8 * x3)) (pc' := 11) i191_10 rfl rfl <| ok_iadd (v := (414 + (8 * x3))) (pc' := 12) i191_11 rfl rfl <| ok_iloadn (pc' := 13) i191_12 rfl rfl <| ok_iadd (v := ((414 + (8 * x3)) + 3)) (pc' := 14) i191_13 rfl rfl <| ok_iaload (v := (M (O + 5) ((414 + (8 * x3)) + 3))) (pc' := 15) i191_14 (ShModel_k5 hSO) (by decide) (ShModel_l5 hSO) (by have z0 := q4 h1; have z1 := q5 h1; have z2 := q6 h1; have z3 := q8 h6; clear q4 q5 q6 q8; omega) rfl rfl <| ok_ireti i191_15 rt191 <| kt_v (pc' := 59) rfl <| ?_
          refine ok_aloadn (pc' := 60) i218_59 rfl rfl <| ok_iloadn (pc' := 61) i218_60 rfl rfl <| ok_iconst (pc' := 62) i218_61 rfl <| ok_cc i218_62 rfl (cl_v o218 m9_226 na191 rfl rfl (bt rfl) (bt rfl) rfl (by rw [ShModel_k0 hSO, o191])) ln191 (pd191 (aR O) (aI x2) (aI 3)) <| ok_aloadn (pc' := 1) i191_0 rfl rfl <| ok_getfr (r := (O + 5)) (pc' := 4) i191_1 o191 gr9_22 (ShModel_k0 hSO) (ShModel_r8 hSO) rfl <| ok_sipush (v := 414) (pc' := 7) i191_4 rfl rfl <| ok_bipush (v := 8) (pc' := 9) i191_7 rfl rfl <| ?_
          refine ok_iloadn (pc' := 10) i191_9 rfl rfl <| ok_imul (v := (8 * x2)) (pc' := 11) i191_10 rfl rfl <| ok_iadd (v := (414 + (8 * x2))) (pc' := 12) i191_11 rfl rfl <| ok_iloadn (pc' := 13) i191_12 rfl rfl <| ok_iadd (v := ((414 + (8 * x2)) + 3)) (pc' := 14) i191_13 rfl rfl <| ok_iaload (v := (M (O + 5) ((414 + (8 * x2)) + 3))) (pc' := 15) i191_14 (ShModel_k5 hSO) (by decide) (ShModel_l5 hSO) (by have z0 := q4 h1; have z1 := q5 h1; have z2 := q6 h1; have z3 := q8 h6; clear q4 q5 q6 q8; omega) rfl rfl <| ok_ireti i191_15 rt191 <| kt_v (pc' := 65) rfl <| ?_
          refine ok_cge (pc1 := 72) (pc2 := 68) i218_65 ⟨(q5 h1).1, (q5 h1).2, (q8 h6).1, (q8 h6).2⟩ rfl rfl (fun h8 => ?_) (fun h8 => ?_)
          · refine ok_iloadn (pc' := 73) i218_72 rfl rfl <| ok_istoren (pc' := 74) (ls' := [aR O, aI x1, aI x2, aI x3, aI 1]) i218_73 (bt rfl) rfl rfl <| ok_iinc (pc' := 77) (v := (x3 + 1)) (ls' := [aR O, aI x1, aI x2, aI (x3 + 1), aI 1]) i218_74 rfl rfl rfl rfl <| ok_goto (pc' := 4) i218_77 rfl <| ?_
            exact K9 h1 h3 h5 h6 h8
          · refine ok_iloadn (pc' := 69) i218_68 rfl rfl <| ok_goto (pc' := 73) i218_69 rfl <| ok_istoren (pc' := 74) (ls' := [aR O, aI x1, aI x3, aI x3, aI 1]) i218_73 (bt rfl) rfl rfl <| ok_iinc (pc' := 77) (v := (x3 + 1)) (ls' := [aR O, aI x1, aI x3, aI (x3 + 1), aI 1]) i218_74 rfl rfl rfl rfl <| ok_goto (pc' := 4) i218_77 rfl <| ?_
            exact K10 h1 h3 h5 h6 h8
      · refine ok_aloadn (pc' := 27) i218_26 rfl rfl <| ok_iloadn (pc' := 28) i218_27 rfl rfl <| ok_iconst (pc' := 29) i218_28 rfl <| ok_cc i218_29 rfl (cl_v o218 m9_226 na191 rfl rfl (bt rfl) (bt rfl) rfl (by rw [ShModel_k0 hSO, o191])) ln191 (pd191 (aR O) (aI x3) (aI 0)) <| ok_aloadn (pc' := 1) i191_0 rfl rfl <| ok_getfr (r := (O + 5)) (pc' := 4) i191_1 o191 gr9_22 (ShModel_k0 hSO) (ShModel_r8 hSO) rfl <| ok_sipush (v := 414) (pc' := 7) i191_4 rfl rfl <| ok_bipush (v := 8) (pc' := 9) i191_7 rfl rfl <| ?_
        refine ok_iloadn (pc' := 10) i191_9 rfl rfl <| ok_imul (v := (8 * x3)) (pc' := 11) i191_10 rfl rfl <| ok_iadd (v := (414 + (8 * x3))) (pc' := 12) i191_11 rfl rfl <| ok_iloadn (pc' := 13) i191_12 rfl rfl <| ok_iadd (v := (414 + (8 * x3))) (pc' := 14) i191_13 (by omega) rfl <| ok_iaload (v := (M (O + 5) (414 + (8 * x3)))) (pc' := 15) i191_14 (ShModel_k5 hSO) (by decide) (ShModel_l5 hSO) (by have z0 := q4 h1; have z1 := q5 h1; have z2 := q6 h1; clear q4 q5 q6 q8; omega) rfl rfl <| ok_ireti i191_15 rt191 <| kt_v (pc' := 32) rfl <| ?_
        refine ok_iloadn (pc' := 33) i218_32 rfl rfl <| ?_
        refine ok_cne (pc1 := 40) (pc2 := 36) i218_33 ⟨(q4 h1).1, (q4 h1).2, q3.1, q3.2⟩ rfl rfl (fun h11 => ?_) (fun h11 => ?_)
        · refine ok_iconst (pc' := 41) i218_40 rfl <| ok_istore (pc' := 43) (ls' := [aR O, aI x1, aI x2, aI x3, aI 0]) i218_41 (bt rfl) rfl rfl <| ok_iload (pc' := 45) i218_43 rfl rfl <| ok_kz1 (pc1 := 72) (pc2 := 48) i218_45 (by decide) rfl rfl <| ok_iloadn (pc' := 73) i218_72 rfl rfl <| ok_istoren (pc' := 74) (ls' := [aR O, aI x1, aI x2, aI x3, aI 0]) i218_73 (bt rfl) rfl rfl <| ok_iinc (pc' := 77) (v := (x3 + 1)) (ls' := [aR O, aI x1, aI x2, aI (x3 + 1), aI 0]) i218_74 rfl rfl rfl rfl <| ok_goto (pc' := 4) i218_77 rfl <| ?_
          exact K12 h1 h3 h5 h11
        · refine ok_iconst (pc' := 37) i218_36 rfl <| ok_goto (pc' := 41) i218_37 rfl <| ok_istore (pc' := 43) (ls' := [aR O, aI x1, aI x2, aI x3, aI 1]) i218_41 (bt rfl) rfl rfl <| ok_iload (pc' := 45) i218_43 rfl rfl <| ok_kz0 (pc1 := 72) (pc2 := 48) i218_45 (by decide) rfl rfl <| ok_iloadn (pc' := 49) i218_48 rfl rfl <| ok_iconst (pc' := 50) i218_49 rfl <| ?_
          refine ok_ceq (pc1 := 68) (pc2 := 53) i218_50 (by have z0 := q4 h1; have z1 := q5 h1; have z2 := q6 h1; clear q4 q5 q6 q8; omega) rfl rfl (fun h13 => ?_) (fun h13 => ?_)
          · refine ok_iloadn (pc' := 69) i218_68 rfl rfl <| ok_goto (pc' := 73) i218_69 rfl <| ok_istoren (pc' := 74) (ls' := [aR O, aI x1, aI x3, aI x3, aI 1]) i218_73 (bt rfl) rfl rfl <| ok_iinc (pc' := 77) (v := (x3 + 1)) (ls' := [aR O, aI x1, aI x3, aI (x3 + 1), aI 1]) i218_74 rfl rfl rfl rfl <| ok_goto (pc' := 4) i218_77 rfl <| ?_
            exact K14 h1 h3 h5 h11 h13
          · refine ok_aloadn (pc' := 54) i218_53 rfl rfl <| ok_iloadn (pc' := 55) i218_54 rfl rfl <| ok_iconst (pc' := 56) i218_55 rfl <| ok_cc i218_56 rfl (cl_v o218 m9_226 na191 rfl rfl (bt rfl) (bt rfl) rfl (by rw [ShModel_k0 hSO, o191])) ln191 (pd191 (aR O) (aI x3) (aI 3)) <| ok_aloadn (pc' := 1) i191_0 rfl rfl <| ok_getfr (r := (O + 5)) (pc' := 4) i191_1 o191 gr9_22 (ShModel_k0 hSO) (ShModel_r8 hSO) rfl <| ok_sipush (v := 414) (pc' := 7) i191_4 rfl rfl <| ok_bipush (v := 8) (pc' := 9) i191_7 rfl rfl <| ?_
            refine ok_iloadn (pc' := 10) i191_9 rfl rfl <| ok_imul (v := (8 * x3)) (pc' := 11) i191_10 rfl rfl <| ok_iadd (v := (414 + (8 * x3))) (pc' := 12) i191_11 rfl rfl <| ok_iloadn (pc' := 13) i191_12 rfl rfl <| ok_iadd (v := ((414 + (8 * x3)) + 3)) (pc' := 14) i191_13 rfl rfl <| ok_iaload (v := (M (O + 5) ((414 + (8 * x3)) + 3))) (pc' := 15) i191_14 (ShModel_k5 hSO) (by decide) (ShModel_l5 hSO) (by have z0 := q4 h1; have z1 := q5 h1; have z2 := q6 h1; have z3 := q8 h13; clear q4 q5 q6 q8; omega) rfl rfl <| ok_ireti i191_15 rt191 <| kt_v (pc' := 59) rfl <| ?_
            refine ok_aloadn (pc' := 60) i218_59 rfl rfl <| ok_iloadn (pc' := 61) i218_60 rfl rfl <| ok_iconst (pc' := 62) i218_61 rfl <| ok_cc i218_62 rfl (cl_v o218 m9_226 na191 rfl rfl (bt rfl) (bt rfl) rfl (by rw [ShModel_k0 hSO, o191])) ln191 (pd191 (aR O) (aI x2) (aI 3)) <| ok_aloadn (pc' := 1) i191_0 rfl rfl <| ok_getfr (r := (O + 5)) (pc' := 4) i191_1 o191 gr9_22 (ShModel_k0 hSO) (ShModel_r8 hSO) rfl <| ok_sipush (v := 414) (pc' := 7) i191_4 rfl rfl <| ok_bipush (v := 8) (pc' := 9) i191_7 rfl rfl <| ?_
            refine ok_iloadn (pc' := 10) i191_9 rfl rfl <| ok_imul (v := (8 * x2)) (pc' := 11) i191_10 rfl rfl <| ok_iadd (v := (414 + (8 * x2))) (pc' := 12) i191_11 rfl rfl <| ok_iloadn (pc' := 13) i191_12 rfl rfl <| ok_iadd (v := ((414 + (8 * x2)) + 3)) (pc' := 14) i191_13 rfl rfl <| ok_iaload (v := (M (O + 5) ((414 + (8 * x2)) + 3))) (pc' := 15) i191_14 (ShModel_k5 hSO) (by decide) (ShModel_l5 hSO) (by have z0 := q4 h1; have z1 := q5 h1; have z2 := q6 h1; have z3 := q8 h13; clear q4 q5 q6 q8; omega) rfl rfl <| ok_ireti i191_15 rt191 <| kt_v (pc' := 65) rfl <| ?_
            refine ok_cge (pc1 := 72) (pc2 := 68) i218_65 ⟨(q5 h1).1, (q5 h1).2, (q8 h13).1, (q8 h13).2⟩ rfl rfl (fun h15 => ?_) (fun h15 => ?_)
            · refine ok_iloadn (pc' := 73) i218_72 rfl rfl <| ok_istoren (pc' := 74) (ls' := [aR O, aI x1, aI x2, aI x3, aI 1]) i218_73 (bt rfl) rfl rfl <| ok_iinc (pc' := 77) (v := (x3 + 1)) (ls' := [aR O, aI x1, aI x2, aI (x3 + 1), aI 1]) i218_74 rfl rfl rfl rfl <| ok_goto (pc' := 4) i218_77 rfl <| ?_
              exact K16 h1 h3 h5 h11 h13 h15
            · refine ok_iloadn (pc' := 69) i218_68 rfl rfl <| ok_goto (pc' := 73) i218_69 rfl <| ok_istoren (pc' := 74) (ls' := [aR O, aI x1, aI x3, aI x3, aI 1]) i218_73 (bt rfl) rfl rfl <| ok_iinc (pc' := 77) (v := (x3 + 1)) (ls' := [aR O, aI x1, aI x3, aI (x3 + 1), aI 1]) i218_74 rfl rfl rfl rfl <| ok_goto (pc' := 4) i218_77 rfl <| ?_
              exact K17 h1 h3 h5 h11 h13 h15
def f218 (M : AM) (O : Nat) (x1 : Int) (x3 x2 : Int) : Int := (if (M (O + 5) ((414 + (8 * x3)) + 4)) ≤ 0 then x2 else (if x1 = 0 then (if x2 = (-1) then x3 else (if (M (O + 5) ((414 + (8 * x2)) + 3)) ≤ (M (O + 5) ((414 + (8 * x3)) + 3)) then x2 else x3)) else (if (M (O + 5) (414 + (8 * x3))) ≠ x1 then x2 else (if x2 = (-1) then x3 else (if (M (O + 5) ((414 + (8 * x2)) + 3)) ≤ (M (O + 5) ((414 + (8 * x3)) + 3)) then x2 else x3)))))
def r218 (M : AM) (O : Nat) (x1 : Int) : Int := (itv (f218 M O x1) (-1) 0 (M (O + 5) 4).toNat)
theorem t218 {g : AG} {M : AM} {O : Nat} {x1 : Int} (hSO : ShModel g O) (h0 : 0 ≤ M (O + 5) 4 ∧ M (O + 5) 4 ≤ 16) (h1 : -2147483648 ≤ x1 ∧ x1 < 2147483648) (h9 : ∀ i : Int, 0 ≤ i → i < M (O + 5) 4 → -2147483648 ≤ M (O + 5) (414 + (8 * i)) ∧ M (O + 5) (414 + (8 * i)) < 2147483648) (h12 : ∀ i : Int, 0 ≤ i → i < M (O + 5) 4 → -2147483648 ≤ M (O + 5) (414 + (8 * i) + 3) ∧ M (O + 5) (414 + (8 * i) + 3) < 2147483648) (h13 : ∀ i : Int, 0 ≤ i → i < M (O + 5) 4 → -2147483648 ≤ M (O + 5) (414 + (8 * i) + 4) ∧ M (O + 5) (414 + (8 * i) + 4) < 2147483648) :
    Ok 2 218 0 [aR O, aI x1, aU, aU, aU] [] g M (Rt (some (aI (r218 M O x1))) g (fun M9 => M9 = M)) := by
  refine b218_0 hSO  ?_
  refine ok_for (lo := 0) (n := (M (O + 5) 4).toNat) (f := (f218 M O x1)) (a0 := (-1)) (fun i a => -1 ≤ a ∧ a < i ∧ i ≤ M (O + 5) 4) (fun i a ls => ∃ w4 : AV, am_cat w4 = 1 ∧ ls = [aR O, aI x1, aI a, aI i, w4]) ?_ ?_ ?_ _ ⟨aU, rfl, rfl⟩
  · omega
  · rintro x3 x2 ls g1 g2 hinv ⟨w4, hw4, rfl⟩ ih
    have r9 := h9 x3
    have r12 := h12 x3
    have r13 := h13 x3
    have r2 := h12 x2
    refine b218_4 hSO hw4 (by omega) (by omega) (by omega) (by omega) (by omega) (by omega) (by omega) (by omega) (by omega) (fun h1 => by omega) (fun h1 h3 => ?_) (fun h1 h3 h5 h6 => ?_) (fun h1 h3 h5 h6 h8 => ?_) (fun h1 h3 h5 h6 h8 => ?_) (fun h1 h3 h5 h11 => ?_) (fun h1 h3 h5 h11 h13 => ?_) (fun h1 h3 h5 h11 h13 h15 => ?_) (fun h1 h3 h5 h11 h13 h15 => ?_)
    · have e : f218 M O x1 x3 x2 = x2 := by unfold f218; rw [if_pos h3]
      exact ih _ (by rw [e]; omega) (by rw [e]; exact ⟨_, rfl, rfl⟩)
    · have e : f218 M O x1 x3 x2 = x3 := by unfold f218; rw [if_neg (by omega), if_pos h5, if_pos h6]
      exact ih _ (by rw [e]; omega) (by rw [e]; exact ⟨_, rfl, rfl⟩)
    · have e : f218 M O x1 x3 x2 = x2 := by unfold f218; rw [if_neg (by omega), if_pos h5, if_neg (by omega), if_pos h8]
      exact ih _ (by rw [e]; omega) (by rw [e]; exact ⟨_, rfl, rfl⟩)
    · have e : f218 M O x1 x3 x2 = x3 := by unfold f218; rw [if_neg (by omega), if_pos h5, if_neg (by omega), if_neg (by omega)]
      exact ih _ (by rw [e]; omega) (by rw [e]; exact ⟨_, rfl, rfl⟩)
    · have e : f218 M O x1 x3 x2 = x2 := by unfold f218; rw [if_neg (by omega), if_neg (by omega), if_pos h11]
      exact ih _ (by rw [e]; omega) (by rw [e]; exact ⟨_, rfl, rfl⟩)
    · have e : f218 M O x1 x3 x2 = x3 := by unfold f218; rw [if_neg (by omega), if_neg (by omega), if_neg (by omega), if_pos h13]
      exact ih _ (by rw [e]; omega) (by rw [e]; exact ⟨_, rfl, rfl⟩)
    · have e : f218 M O x1 x3 x2 = x2 := by unfold f218; rw [if_neg (by omega), if_neg (by omega), if_neg (by omega), if_neg (by omega), if_pos h15]
      exact ih _ (by rw [e]; omega) (by rw [e]; exact ⟨_, rfl, rfl⟩)
    · have e : f218 M O x1 x3 x2 = x3 := by unfold f218; rw [if_neg (by omega), if_neg (by omega), if_neg (by omega), if_neg (by omega), if_neg (by omega)]
      exact ih _ (by rw [e]; omega) (by rw [e]; exact ⟨_, rfl, rfl⟩)
  · rintro ls hinv ⟨w4, hw4, rfl⟩
    have r9 := h9 (0 + ((M (O + 5) 4).toNat : Nat))
    have r12 := h12 (0 + ((M (O + 5) 4).toNat : Nat))
    have r13 := h13 (0 + ((M (O + 5) 4).toNat : Nat))
    have r2 := h12 (itv (f218 M O x1) (-1) 0 (M (O + 5) 4).toNat)
    refine b218_4 hSO hw4 (by omega) (by omega) (by omega) (by omega) (by omega) (by omega) (by omega) (by omega) (by omega) (fun h1 => ⟨rfl, rfl, rfl⟩) (fun h1 h3 => by omega) (fun h1 h3 h5 h6 => by omega) (fun h1 h3 h5 h6 h8 => by omega) (fun h1 h3 h5 h6 h8 => by omega) (fun h1 h3 h5 h11 => by omega) (fun h1 h3 h5 h11 h13 => by omega) (fun h1 h3 h5 h11 h13 h15 => by omega) (fun h1 h3 h5 h11 h13 h15 => by omega)
theorem b34_0 {Q : AO → AG → AM → Prop} {g : AG} {M : AM}  {W P B : Nat} {x1 x2 : Int}  (hSW : ShWorks g W P B) (hSP : ShPlan g P) (hSB : ShState g B)  
    (K1 : Ok 1 34 5 [aR W, aI x1, aI x2, aI (-1), aI 0] [] g M Q) :
    Ok 1 34 0 [aR W, aI x1, aI x2, aU, aU] [] g M Q := by
  refine ok_iconst (pc' := 1) i34_0 rfl <| ok_istoren (pc' := 2) (ls' := [aR W, aI x1, aI x2, aI (-1), aU]) i34_1 (bt rfl) rfl rfl <| ok_iconst (pc' := 3) i34_2 rfl <| ok_istore (pc' := 5) (ls' := [aR W, aI x1, aI x2, aI (-1), aI 0]) i34_3 (bt rfl) rfl rfl <| ?_
  exact K1
theorem b34_5 {Q : AO → AG → AM → Prop} {g : AG} {M : AM}  {W P B : Nat} {x1 x2 x3 x4 : Int}  (hSW : ShWorks g W P B) (hSP : ShPlan g P) (hSB : ShState g B)  (q0 : 0 ≤ x4) (q1 : -2147483648 ≤ x4 ∧ x4 < 2147483648) (q2 : 0 ≤ M B 2 ∧ M B 2 ≤ 80) (q3 : -2147483648 ≤ x1 ∧ x1 < 2147483648) (q4 : -2147483648 ≤ x2 ∧ x2 < 2147483648) (q5 : x4 < M B 2 → -2147483648 ≤ M (B + 4) x4 ∧ M (B + 4) x4 < 2147483648) (q6 : -1 ≤ x3 ∧ x3 < 80) (q7 : x3 ≠ -1 → -2147483648 ≤ M (B + 4) x3 ∧ M (B + 4) x3 < 2147483648)
    (K2 : (M B 2) ≤ x4 → Q (.inl (some (aI x3))) g M)
    (K4 : x4 < (M B 2) → (M (B + 4) x4) < x1 → Ok 1 34 5 [aR W, aI x1, aI x2, aI x3, aI (x4 + 1)] [] g M Q)
    (K6 : x4 < (M B 2) → x1 ≤ (M (B + 4) x4) → x3 = (-1) → Ok 1 34 5 [aR W, aI x1, aI x2, aI x4, aI (x4 + 1)] [] g M Q)
    (K9 : x4 < (M B 2) → x1 ≤ (M (B + 4) x4) → x3 ≠ (-1) → x2 ≠ 1 → x2 ≠ 2 → Ok 1 34 5 [aR W, aI x1, aI x2, aI x3, aI (x4 + 1)] [] g M Q)
    (K11 : x4 < (M B 2) → x1 ≤ (M (B + 4) x4) → x3 ≠ (-1) → x2 ≠ 1 → x2 = 2 → (M (B + 4) x4) ≤ (M (B + 4) x3) → Ok 1 34 5 [aR W, aI x1, aI x2, aI x3, aI (x4 + 1)] [] g M Q)
    (K12 : x4 < (M B 2) → x1 ≤ (M (B + 4) x4) → x3 ≠ (-1) → x2 ≠ 1 → x2 = 2 → (M (B + 4) x3) < (M (B + 4) x4) → Ok 1 34 5 [aR W, aI x1, aI x2, aI x4, aI (x4 + 1)] [] g M Q)
    (K14 : x4 < (M B 2) → x1 ≤ (M (B + 4) x4) → x3 ≠ (-1) → x2 = 1 → (M (B + 4) x4) < (M (B + 4) x3) → Ok 1 34 5 [aR W, aI x1, aI x2, aI x4, aI (x4 + 1)] [] g M Q)
    (K16 : x4 < (M B 2) → x1 ≤ (M (B + 4) x4) → x3 ≠ (-1) → x2 = 1 → (M (B + 4) x3) ≤ (M (B + 4) x4) → x2 ≠ 2 → Ok 1 34 5 [aR W, aI x1, aI x2, aI x3, aI (x4 + 1)] [] g M Q)
    (K18 : x4 < (M B 2) → x1 ≤ (M (B + 4) x4) → x3 ≠ (-1) → x2 = 1 → (M (B + 4) x3) ≤ (M (B + 4) x4) → x2 = 2 → (M (B + 4) x4) ≤ (M (B + 4) x3) → Ok 1 34 5 [aR W, aI x1, aI x2, aI x3, aI (x4 + 1)] [] g M Q)
    (K19 : x4 < (M B 2) → x1 ≤ (M (B + 4) x4) → x3 ≠ (-1) → x2 = 1 → (M (B + 4) x3) ≤ (M (B + 4) x4) → x2 = 2 → (M (B + 4) x3) < (M (B + 4) x4) → Ok 1 34 5 [aR W, aI x1, aI x2, aI x4, aI (x4 + 1)] [] g M Q) :
    Ok 1 34 5 [aR W, aI x1, aI x2, aI x3, aI x4] [] g M Q := by
  refine ok_iload (pc' := 7) i34_5 rfl rfl <| ok_aloadn (pc' := 8) i34_7 rfl rfl <| ok_getfr (r := B) (pc' := 11) i34_8 o34 gr8_15 (ShWorks_k0 hSW) (ShWorks_r1 hSW) rfl <| ok_getfi (v := (M B 2)) (pc' := 14) i34_11 o34 gi8_49 (ShState_k0 hSB) rfl rfl <| ?_
  refine ok_cge (pc1 := 58) (pc2 := 17) i34_14 (by clear q5 q7; omega) rfl rfl (fun h1 => ?_) (fun h1 => ?_)
  · refine ok_iloadn (pc' := 59) i34_58 rfl rfl <| ok_ireti i34_59 rt34 <| ?_
    exact K2 h1
  · refine ok_aloadn (pc' := 18) i34_17 rfl rfl <| ok_getfr (r := B) (pc' := 21) i34_18 o34 gr8_15 (ShWorks_k0 hSW) (ShWorks_r1 hSW) rfl <| ok_getfr (r := (B + 2)) (pc' := 24) i34_21 o34 gr8_25 (ShState_k0 hSB) (ShState_r3 hSB) rfl <| ok_iconst (pc' := 25) i34_24 rfl <| ok_aaload (r := (B + 4)) (pc' := 26) i34_25 (ShState_k2 hSB) (by decide) (ShState_l2 hSB) (by decide) (ShState_e2_1 hSB) rfl <| ok_iload (pc' := 28) i34_26 rfl rfl <| ok_iaload (v := (M (B + 4) x4)) (pc' := 29) i34_28 (ShState_k4 hSB) (by decide) (ShState_l4 hSB) (by have z0 := q5 h1; clear q5 q7; omega) rfl rfl <| ok_iloadn (pc' := 30) i34_29 rfl rfl <| ?_
    refine ok_clt (pc1 := 52) (pc2 := 33) i34_30 ⟨(q5 h1).1, (q5 h1).2, q3.1, q3.2⟩ rfl rfl (fun h3 => ?_) (fun h3 => ?_)
    · refine ok_iinc (pc' := 55) (v := (x4 + 1)) (ls' := [aR W, aI x1, aI x2, aI x3, aI (x4 + 1)]) i34_52 rfl rfl rfl rfl <| ok_goto (pc' := 5) i34_55 rfl <| ?_
      exact K4 h1 h3
    · refine ok_iloadn (pc' := 34) i34_33 rfl rfl <| ok_iconst (pc' := 35) i34_34 rfl <| ?_
      refine ok_ceq (pc1 := 49) (pc2 := 38) i34_35 (by have z0 := q5 h1; clear q5 q7; omega) rfl rfl (fun h5 => ?_) (fun h5 => ?_)
      · refine ok_iload (pc' := 51) i34_49 rfl rfl <| ok_istoren (pc' := 52) (ls' := [aR W, aI x1, aI x2, aI x4, aI x4]) i34_51 (bt rfl) rfl rfl <| ok_iinc (pc' := 55) (v := (x4 + 1)) (ls' := [aR W, aI x1, aI x2, aI x4, aI (x4 + 1)]) i34_52 rfl rfl rfl rfl <| ok_goto (pc' := 5) i34_55 rfl <| ?_
        exact K6 h1 h3 h5
      · refine ok_aloadn (pc' := 39) i34_38 rfl rfl <| ok_iloadn (pc' := 40) i34_39 rfl rfl <| ok_iload (pc' := 42) i34_40 rfl rfl <| ok_iloadn (pc' := 43) i34_42 rfl rfl <| ok_cc i34_43 rfl (cl_v o34 m8_53 na35 rfl rfl (bt rfl) (bt rfl) rfl (by rw [ShWorks_k0 hSW, o35])) ln35 (pd35 (aR W) (aI x2) (aI x4) (aI x3)) <| ok_aloadn (pc' := 1) i35_0 rfl rfl <| ok_getfr (r := B) (pc' := 4) i35_1 o35 gr8_15 (ShWorks_k0 hSW) (ShWorks_r1 hSW) rfl <| ok_getfr (r := (B + 2)) (pc' := 7) i35_4 o35 gr8_25 (ShState_k0 hSB) (ShState_r3 hSB) rfl <| ?_
        refine ok_iconst (pc' := 8) i35_7 rfl <| ok_aaload (r := (B + 4)) (pc' := 9) i35_8 (ShState_k2 hSB) (by decide) (ShState_l2 hSB) (by decide) (ShState_e2_1 hSB) rfl <| ok_iloadn (pc' := 10) i35_9 rfl rfl <| ok_iaload (v := (M (B + 4) x4)) (pc' := 11) i35_10 (ShState_k4 hSB) (by decide) (ShState_l4 hSB) (by have z0 := q5 h1; have z1 := q7 h5; clear q5 q7; omega) rfl rfl <| ok_istore (pc' := 13) (ls' := [aR W, aI x2, aI x4, aI x3, aI (M (B + 4) x4), aU]) i35_11 (bt rfl) rfl rfl <| ok_aloadn (pc' := 14) i35_13 rfl rfl <| ok_getfr (r := B) (pc' := 17) i35_14 o35 gr8_15 (ShWorks_k0 hSW) (ShWorks_r1 hSW) rfl <| ok_getfr (r := (B + 2)) (pc' := 20) i35_17 o35 gr8_25 (ShState_k0 hSB) (ShState_r3 hSB) rfl <| ?_
        refine ok_iconst (pc' := 21) i35_20 rfl <| ok_aaload (r := (B + 4)) (pc' := 22) i35_21 (ShState_k2 hSB) (by decide) (ShState_l2 hSB) (by decide) (ShState_e2_1 hSB) rfl <| ok_iloadn (pc' := 23) i35_22 rfl rfl <| ok_iaload (v := (M (B + 4) x3)) (pc' := 24) i35_23 (ShState_k4 hSB) (by decide) (ShState_l4 hSB) (by have z0 := q5 h1; have z1 := q7 h5; clear q5 q7; omega) rfl rfl <| ok_istore (pc' := 26) (ls' := [aR W, aI x2, aI x4, aI x3, aI (M (B + 4) x4), aI (M (B + 4) x3)]) i35_24 (bt rfl) rfl rfl <| ok_iloadn (pc' := 27) i35_26 rfl rfl <| ok_iconst (pc' := 28) i35_27 rfl <| ?_
        refine ok_cne (pc1 := 38) (pc2 := 31) i35_28 ⟨q4.1, q4.2, by decide, by decide⟩ rfl rfl (fun h7 => ?_) (fun h7 => ?_)
        · refine ok_iloadn (pc' := 39) i35_38 rfl rfl <| ok_iconst (pc' := 40) i35_39 rfl <| ?_
          refine ok_cne (pc1 := 54) (pc2 := 43) i35_40 ⟨q4.1, q4.2, by decide, by decide⟩ rfl rfl (fun h8 => ?_) (fun h8 => ?_)
          · refine ok_iconst (pc' := 55) i35_54 rfl <| ok_iretz i35_55 rt35 (by decide) <| kt_v (pc' := 46) rfl <| ok_kz1 (pc1 := 52) (pc2 := 49) i34_46 (by decide) rfl rfl <| ok_iinc (pc' := 55) (v := (x4 + 1)) (ls' := [aR W, aI x1, aI x2, aI x3, aI (x4 + 1)]) i34_52 rfl rfl rfl rfl <| ok_goto (pc' := 5) i34_55 rfl <| ?_
            exact K9 h1 h3 h5 h7 h8
          · refine ok_iload (pc' := 45) i35_43 rfl rfl <| ok_iload (pc' := 47) i35_45 rfl rfl <| ?_
            refine ok_cle (pc1 := 54) (pc2 := 50) i35_47 ⟨(q5 h1).1, (q5 h1).2, (q7 h5).1, (q7 h5).2⟩ rfl rfl (fun h10 => ?_) (fun h10 => ?_)
            · refine ok_iconst (pc' := 55) i35_54 rfl <| ok_iretz i35_55 rt35 (by decide) <| kt_v (pc' := 46) rfl <| ok_kz1 (pc1 := 52) (pc2 := 49) i34_46 (by decide) rfl rfl <| ok_iinc (pc' := 55) (v := (x4 + 1)) (ls' := [aR W, aI x1, aI x2, aI x3, aI (x4 + 1)]) i34_52 rfl rfl rfl rfl <| ok_goto (pc' := 5) i34_55 rfl <| ?_
              exact K11 h1 h3 h5 h7 h8 h10
            · refine ok_iconst (pc' := 51) i35_50 rfl <| ok_goto (pc' := 55) i35_51 rfl <| ok_iretz i35_55 rt35 (by decide) <| kt_v (pc' := 46) rfl <| ok_kz0 (pc1 := 52) (pc2 := 49) i34_46 (by decide) rfl rfl <| ok_iload (pc' := 51) i34_49 rfl rfl <| ok_istoren (pc' := 52) (ls' := [aR W, aI x1, aI x2, aI x4, aI x4]) i34_51 (bt rfl) rfl rfl <| ok_iinc (pc' := 55) (v := (x4 + 1)) (ls' := [aR W, aI x1, aI x2, aI x4, aI (x4 + 1)]) i34_52 rfl rfl rfl rfl <| ?_
              refine ok_goto (pc' := 5) i34_55 rfl <| ?_
              exact K12 h1 h3 h5 h7 h8 h10
        · refine ok_iload (pc' := 33) i35_31 rfl rfl <| ok_iload (pc' := 35) i35_33 rfl rfl <| ?_
          refine ok_clt (pc1 := 50) (pc2 := 38) i35_35 ⟨(q5 h1).1, (q5 h1).2, (q7 h5).1, (q7 h5).2⟩ rfl rfl (fun h13 => ?_) (fun h13 => ?_)
          · refine ok_iconst (pc' := 51) i35_50 rfl <| ok_goto (pc' := 55) i35_51 rfl <| ok_iretz i35_55 rt35 (by decide) <| kt_v (pc' := 46) rfl <| ok_kz0 (pc1 := 52) (pc2 := 49) i34_46 (by decide) rfl rfl <| ok_iload (pc' := 51) i34_49 rfl rfl <| ok_istoren (pc' := 52) (ls' := [aR W, aI x1, aI x2, aI x4, aI x4]) i34_51 (bt rfl) rfl rfl <| ok_iinc (pc' := 55) (v := (x4 + 1)) (ls' := [aR W, aI x1, aI x2, aI x4, aI (x4 + 1)]) i34_52 rfl rfl rfl rfl <| ?_
            refine ok_goto (pc' := 5) i34_55 rfl <| ?_
            exact K14 h1 h3 h5 h7 h13
          · refine ok_iloadn (pc' := 39) i35_38 rfl rfl <| ok_iconst (pc' := 40) i35_39 rfl <| ?_
            refine ok_cne (pc1 := 54) (pc2 := 43) i35_40 ⟨q4.1, q4.2, by decide, by decide⟩ rfl rfl (fun h15 => ?_) (fun h15 => ?_)
            · refine ok_iconst (pc' := 55) i35_54 rfl <| ok_iretz i35_55 rt35 (by decide) <| kt_v (pc' := 46) rfl <| ok_kz1 (pc1 := 52) (pc2 := 49) i34_46 (by decide) rfl rfl <| ok_iinc (pc' := 55) (v := (x4 + 1)) (ls' := [aR W, aI x1, aI x2, aI x3, aI (x4 + 1)]) i34_52 rfl rfl rfl rfl <| ok_goto (pc' := 5) i34_55 rfl <| ?_
              exact K16 h1 h3 h5 h7 h13 h15
            · refine ok_iload (pc' := 45) i35_43 rfl rfl <| ok_iload (pc' := 47) i35_45 rfl rfl <| ?_
              refine ok_cle (pc1 := 54) (pc2 := 50) i35_47 ⟨(q5 h1).1, (q5 h1).2, (q7 h5).1, (q7 h5).2⟩ rfl rfl (fun h17 => ?_) (fun h17 => ?_)
              · refine ok_iconst (pc' := 55) i35_54 rfl <| ok_iretz i35_55 rt35 (by decide) <| kt_v (pc' := 46) rfl <| ok_kz1 (pc1 := 52) (pc2 := 49) i34_46 (by decide) rfl rfl <| ok_iinc (pc' := 55) (v := (x4 + 1)) (ls' := [aR W, aI x1, aI x2, aI x3, aI (x4 + 1)]) i34_52 rfl rfl rfl rfl <| ok_goto (pc' := 5) i34_55 rfl <| ?_
                exact K18 h1 h3 h5 h7 h13 h15 h17
              · refine ok_iconst (pc' := 51) i35_50 rfl <| ok_goto (pc' := 55) i35_51 rfl <| ok_iretz i35_55 rt35 (by decide) <| kt_v (pc' := 46) rfl <| ok_kz0 (pc1 := 52) (pc2 := 49) i34_46 (by decide) rfl rfl <| ok_iload (pc' := 51) i34_49 rfl rfl <| ok_istoren (pc' := 52) (ls' := [aR W, aI x1, aI x2, aI x4, aI x4]) i34_51 (bt rfl) rfl rfl <| ok_iinc (pc' := 55) (v := (x4 + 1)) (ls' := [aR W, aI x1, aI x2, aI x4, aI (x4 + 1)]) i34_52 rfl rfl rfl rfl <| ?_
                refine ok_goto (pc' := 5) i34_55 rfl <| ?_
                exact K19 h1 h3 h5 h7 h13 h15 h17
def f34 (M : AM) (W P B : Nat) (x1 x2 : Int) (x4 x3 : Int) : Int := (if (M (B + 4) x4) < x1 then x3 else (if x3 = (-1) then x4 else (if x2 ≠ 1 then (if x2 ≠ 2 then x3 else (if (M (B + 4) x4) ≤ (M (B + 4) x3) then x3 else x4)) else (if (M (B + 4) x4) < (M (B + 4) x3) then x4 else (if x2 ≠ 2 then x3 else (if (M (B + 4) x4) ≤ (M (B + 4) x3) then x3 else x4))))))
def r34 (M : AM) (W P B : Nat) (x1 x2 : Int) : Int := (itv (f34 M W P B x1 x2) (-1) 0 (M B 2).toNat)
theorem t34 {g : AG} {M : AM} {W P B : Nat} {x1 x2 : Int} (hSW : ShWorks g W P B) (hSP : ShPlan g P) (hSB : ShState g B) (h0 : 0 ≤ M B 2 ∧ M B 2 ≤ 80) (h1 : -2147483648 ≤ x1 ∧ x1 < 2147483648) (h2 : -2147483648 ≤ x2 ∧ x2 < 2147483648) (h4 : ∀ i : Int, 0 ≤ i → i < M B 2 → -2147483648 ≤ M (B + 4) i ∧ M (B + 4) i < 2147483648) :
    Ok 1 34 0 [aR W, aI x1, aI x2, aU, aU] [] g M (Rt (some (aI (r34 M W P B x1 x2))) g (fun M9 => M9 = M)) := by
  refine b34_0 hSW hSP hSB  ?_
  refine ok_for (lo := 0) (n := (M B 2).toNat) (f := (f34 M W P B x1 x2)) (a0 := (-1)) (fun i a => -1 ≤ a ∧ a < i ∧ i ≤ M B 2) (fun i a ls => ls = [aR W, aI x1, aI x2, aI a, aI i]) ?_ ?_ ?_ _ rfl
  · omega
  · rintro x4 x3 ls g1 g2 hinv rfl ih
    have r4 := h4 x4
    have r3 := h4 x3
    refine b34_5 hSW hSP hSB  (by omega) (by omega) (by omega) (by omega) (by omega) (by omega) (by omega) (by omega) (fun h1 => by omega) (fun h1 h3 => ?_) (fun h1 h3 h5 => ?_) (fun h1 h3 h5 h7 h8 => ?_) (fun h1 h3 h5 h7 h8 h10 => ?_) (fun h1 h3 h5 h7 h8 h10 => ?_) (fun h1 h3 h5 h7 h13 => ?_) (fun h1 h3 h5 h7 h13 h15 => ?_) (fun h1 h3 h5 h7 h13 h15 h17 => ?_) (fun h1 h3 h5 h7 h13 h15 h17 => ?_)
    · have e : f34 M W P B x1 x2 x4 x3 = x3 := by unfold f34; rw [if_pos h3]
      exact ih _ (by rw [e]; omega) (by rw [e])
    · have e : f34 M W P B x1 x2 x4 x3 = x4 := by unfold f34; rw [if_neg (by omega), if_pos h5]
      exact ih _ (by rw [e]; omega) (by rw [e])
    · have e : f34 M W P B x1 x2 x4 x3 = x3 := by unfold f34; rw [if_neg (by omega), if_neg (by omega), if_pos h7, if_pos h8]
      exact ih _ (by rw [e]; omega) (by rw [e])
    · have e : f34 M W P B x1 x2 x4 x3 = x3 := by unfold f34; rw [if_neg (by omega), if_neg (by omega), if_pos h7, if_neg (by omega), if_pos h10]
      exact ih _ (by rw [e]; omega) (by rw [e])
    · have e : f34 M W P B x1 x2 x4 x3 = x4 := by unfold f34; rw [if_neg (by omega), if_neg (by omega), if_pos h7, if_neg (by omega), if_neg (by omega)]
      exact ih _ (by rw [e]; omega) (by rw [e])
    · have e : f34 M W P B x1 x2 x4 x3 = x4 := by unfold f34; rw [if_neg (by omega), if_neg (by omega), if_neg (by omega), if_pos h13]
      exact ih _ (by rw [e]; omega) (by rw [e])
    · have e : f34 M W P B x1 x2 x4 x3 = x3 := by unfold f34; rw [if_neg (by omega), if_neg (by omega), if_neg (by omega), if_neg (by omega), if_pos h15]
      exact ih _ (by rw [e]; omega) (by rw [e])
    · have e : f34 M W P B x1 x2 x4 x3 = x3 := by unfold f34; rw [if_neg (by omega), if_neg (by omega), if_neg (by omega), if_neg (by omega), if_neg (by omega), if_pos h17]
      exact ih _ (by rw [e]; omega) (by rw [e])
    · have e : f34 M W P B x1 x2 x4 x3 = x4 := by unfold f34; rw [if_neg (by omega), if_neg (by omega), if_neg (by omega), if_neg (by omega), if_neg (by omega), if_neg (by omega)]
      exact ih _ (by rw [e]; omega) (by rw [e])
  · rintro ls hinv rfl
    have r4 := h4 (0 + ((M B 2).toNat : Nat))
    have r3 := h4 (itv (f34 M W P B x1 x2) (-1) 0 (M B 2).toNat)
    refine b34_5 hSW hSP hSB  (by omega) (by omega) (by omega) (by omega) (by omega) (by omega) (by omega) (by omega) (fun h1 => ⟨rfl, rfl, rfl⟩) (fun h1 h3 => by omega) (fun h1 h3 h5 => by omega) (fun h1 h3 h5 h7 h8 => by omega) (fun h1 h3 h5 h7 h8 h10 => by omega) (fun h1 h3 h5 h7 h8 h10 => by omega) (fun h1 h3 h5 h7 h13 => by omega) (fun h1 h3 h5 h7 h13 h15 => by omega) (fun h1 h3 h5 h7 h13 h15 h17 => by omega) (fun h1 h3 h5 h7 h13 h15 h17 => by omega)
