/-! TRIALS: the reference (by program, wip/gen) -/
/-- only the trial's place among the stores changes -/
def WI (M M9 : AM) (O : Nat) : Prop := ∃ st : Int → Int, M9 = upM M (O + 6) st ∧ ∀ y : Int, 983 ≤ y → st y = M (O + 6) y
theorem WI.rfl {M : AM} {O : Nat} : WI M M O := ⟨M (O + 6), upM_self.symm, fun _ _ => Eq.refl _⟩
theorem WI.trans {M M1 M2 : AM} {O : Nat} (h : WI M M1 O) (h' : WI M1 M2 O) : WI M M2 O := by
  obtain ⟨st, e, h1⟩ := h
  obtain ⟨st', e', h2⟩ := h'
  refine ⟨st', by rw [e', e, upM_upM], fun y hy => ?_⟩
  rw [h2 y hy, e, upM_at, h1 y hy]
theorem WI.repO {M M9 : AM} {O : Nat} {q s : Int → Int} (h : WI M M9 O) (hR : RepO M O q s) : RepO M9 O q s := by
  obtain ⟨st, e, h1⟩ := h
  rw [e]
  exact RepO.fr hR ⟨by rw [upM_na (by omega)], by rw [upM_na (by omega)]⟩ (fun a h1 h2 => by rw [upM_na (by omega)])
theorem WI.na {M M9 : AM} {O c : Nat} (h : WI M M9 O) (hc : c ≠ O + 6) : M9 c = M c := by
  obtain ⟨st, e, h1⟩ := h
  rw [e, upM_na hc]
/-- what was kept is fetched back -/
theorem t242k {g : AG} {M0 M1 M : AM} {O : Nat} {t : Int → Int} (hSO : ShModel g O) (h1 : M1 = upM M0 (O + 6) (cpI (M0 (O + 6)) (M0 (O + 5)) (983 * 0) 983)) (hM : M = upM M1 (O + 5) t) (ho : Out (M0 (O + 5)) t) : Ok 0 242 0 [aR O, aI 0, aU] [] g M (Rt none g (fun M9 => M9 = M1)) := by
  refine (t242 (x1 := 0) hSO (by omega)).mono (fun o g1 M9 h => ⟨h.1, h.2.1, ?_⟩)
  have e5 : M (O + 5) = t := by rw [hM, upM_at]
  have e6 : M (O + 6) = cpI (M0 (O + 6)) (M0 (O + 5)) (983 * 0) 983 := by rw [hM, upM_na (by omega), h1, upM_at]
  have e : cpI (M (O + 5)) (fun y => M (O + 6) ((983 * 0) + y)) 0 983 = M0 (O + 5) := by
    funext y
    rw [e5, e6]
    unfold cpI
    by_cases hy : 0 ≤ y ∧ y < 983
    · rw [if_pos (by omega)]
      show (if 983 * 0 ≤ 983 * 0 + (y - 0) ∧ 983 * 0 + (y - 0) < 983 * 0 + 983 then M0 (O + 5) (983 * 0 + (y - 0) - 983 * 0) else _) = _
      rw [if_pos (by omega)]
      congr 1
      omega
    · rw [if_neg (by omega)]
      exact ho y (by omega)
  rw [h.2.2, e, hM, upM_upM, h1]
  funext c
  unfold upM
  by_cases hc : c = O + 5
  · subst hc
    simp
  · simp [hc]
theorem keep_wi {M M1 : AM} {O : Nat} (h : M1 = upM M (O + 6) (cpI (M (O + 6)) (M (O + 5)) (983 * 0) 983)) : WI M M1 O := ⟨_, h, fun y hy => cpI_out (by omega)⟩
theorem bst_rg {n l p : Int} (hn : -1 ≤ n ∧ n ≤ 12) (hl : 1 ≤ l ∧ l ≤ 200) (hp : 1 ≤ p ∧ p ≤ 99) : -2147483648 ≤ n * l * p ∧ n * l * p < 2147483648 := by
  have h1 : -200 ≤ n * l ∧ n * l ≤ 2400 := by
    rcases (show n = -1 ∨ n = 0 ∨ n = 1 ∨ n = 2 ∨ n = 3 ∨ n = 4 ∨ n = 5 ∨ n = 6 ∨ n = 7 ∨ n = 8 ∨ n = 9 ∨ n = 10 ∨ n = 11 ∨ n = 12 by omega) with rfl | rfl | rfl | rfl | rfl | rfl | rfl | rfl | rfl | rfl | rfl | rfl | rfl | rfl <;> omega
  generalize n * l = m at *
  have h2 : m * p ≤ 2400 * p := Int.mul_le_mul_of_nonneg_right h1.2 (by omega)
  have h3 : -200 * p ≤ m * p := Int.mul_le_mul_of_nonneg_right h1.1 (by omega)
  omega
theorem need_rg {q s : Int → Int} {k : Int} : -1 ≤ needS q s k ∧ needS q s k ≤ 12 := by
  have key : ∀ n : Nat, n ≤ 13 → ∀ c, itx (needF q s k) 0 0 n = .inr c → 0 ≤ c ∧ c ≤ 12 := by
    intro n
    induction n with
    | zero => exact fun _ c h => (by cases h)
    | succ n ih =>
      intro hn c
      rw [itx]
      split
      · unfold needF
        split
        · intro h
          cases h
          omega
        · intro h
          cases h
      · next r e =>
        intro h
        cases h
        exact ih (by omega) c e
  unfold needS
  cases e : itx (needF q s k) 0 0 13 with
  | inl a => exact ⟨by show (-1 : Int) ≤ -1; omega, by show (-1 : Int) ≤ 12; omega⟩
  | inr c =>
    have := key 13 (by omega) c e
    exact ⟨by show -1 ≤ c; omega, by show c ≤ 12; omega⟩
theorem o233 : am_oc 233 = 9 := by decide +kernel
theorem m9_317 : am_mlk 9 317 0 235 = true := by decide +kernel
theorem na235 : am_na 235 = 1 := by decide +kernel
theorem nl235 : am_nL 235 = 6 := by decide +kernel
theorem pd235 : ∀ a0 a1 : AV, am_pad 235 [a0, a1] = [a0, a1, aU, aU, aU, aU] := by intros; unfold am_pad; rw [nl235]; rfl
theorem ln235 : 2 ≤ am_nL 235 := by rw [nl235]; decide
theorem m9_323 : am_mlk 9 323 0 242 = true := by decide +kernel
theorem na242 : am_na 242 = 1 := by decide +kernel
theorem nl242 : am_nL 242 = 3 := by decide +kernel
theorem pd242 : ∀ a0 a1 : AV, am_pad 242 [a0, a1] = [a0, a1, aU] := by intros; unfold am_pad; rw [nl242]; rfl
theorem ln242 : 2 ≤ am_nL 242 := by rw [nl242]; decide
theorem rt233 : am_rt 233 = some .int := by decide +kernel
theorem o244 : am_oc 244 = 9 := by decide +kernel
theorem m9_320 : am_mlk 9 320 0 245 = true := by decide +kernel
theorem na245 : am_na 245 = 0 := by decide +kernel
theorem nl245 : am_nL 245 = 3 := by decide +kernel
theorem pd245 : ∀ a0 : AV, am_pad 245 [a0] = [a0, aU, aU] := by intros; unfold am_pad; rw [nl245]; rfl
theorem ln245 : 1 ≤ am_nL 245 := by rw [nl245]; decide
theorem rt244 : am_rt 244 = some .int := by decide +kernel
theorem o250 : am_oc 250 = 9 := by decide +kernel
theorem m9_335 : am_mlk 9 335 0 251 = true := by decide +kernel
theorem na251 : am_na 251 = 1 := by decide +kernel
theorem nl251 : am_nL 251 = 3 := by decide +kernel
theorem pd251 : ∀ a0 a1 : AV, am_pad 251 [a0, a1] = [a0, a1, aU] := by intros; unfold am_pad; rw [nl251]; rfl
theorem ln251 : 2 ≤ am_nL 251 := by rw [nl251]; decide
theorem m9_235 : am_mlk 9 235 0 192 = true := by decide +kernel
theorem na192 : am_na 192 = 0 := by decide +kernel
theorem nl192 : am_nL 192 = 3 := by decide +kernel
theorem pd192 : ∀ a0 : AV, am_pad 192 [a0] = [a0, aU, aU] := by intros; unfold am_pad; rw [nl192]; rfl
theorem ln192 : 1 ≤ am_nL 192 := by rw [nl192]; decide
theorem rt250 : am_rt 250 = some .int := by decide +kernel
theorem t233 {g : AG} {M : AM} {O : Nat} {s q : Int → Int} {b : Int} {x1 : Int} (hSO : ShModel g O) (hRO : RepO M O q s) (hV : Val b q s) (hQ : ValQ q) (h1 : 0 ≤ x1 ∧ x1 < 4) (hb : b + 7 ≤ 1000000) :
    Ok 7 233 0 [aR O, aI x1, aU] [] g M (Rt (some (aI (fulN q s x1))) g (fun M9 => WI M M9 O)) := by
  have ys3 : 0 ≤ s 3 ∧ s 3 ≤ 80 := V_3 hV
  have ys4 : 0 ≤ s 4 ∧ s 4 ≤ 16 := V_4 hV
  have yq0 : 0 ≤ q 0 ∧ q 0 ≤ 4 := Q_0 hQ
  have yq1 : 0 ≤ q 1 ∧ q 1 ≤ 6 := Q_1 hQ
  refine ok_aloadn (pc' := 1) i233_0 rfl rfl <| ok_iconst (pc' := 2) i233_1 rfl <| ?_
  refine ok_cn0 (pc' := 5) (d0 := 0) i233_2 rfl (cl_v o233 m9_314 na234 rfl rfl (bt rfl) (bt rfl) rfl (by rw [ShModel_k0 hSO, o234])) ln234 (pd234 (aR O) (aI 0)) (by omega) (t234 (x1 := 0) hSO (by omega)) rfl (fun M1 p2 => ?_)
  have hKM1 : RepO M1 O q s := (keep_wi p2).repO hRO
  refine ok_aloadn (pc' := 6) i233_5 rfl rfl <| ok_iloadn (pc' := 7) i233_6 rfl rfl <| ?_
  refine ok_cn (pc' := 10) (d0 := 6) i233_7 rfl (cl_v o233 m9_317 na235 rfl rfl (bt rfl) (bt rfl) rfl (by rw [ShModel_k0 hSO, o235])) ln235 (pd235 (aR O) (aI x1)) (by omega) (t235 (x1 := x1) hSO hKM1 hV hQ (by omega) (by omega)) rfl (fun M3 p4 => ?_)
  obtain ⟨s3, hs3⟩ : ∃ u9 : Int → Int, u9 = (fulS q s x1) := ⟨_, rfl⟩
  rw [← hs3] at p4
  have hRM3 : RepO M3 O q s3 := by rw [p4]; exact RepO.upm hKM1
  have hVM3 : Val (b) q s3 := by rw [hs3]; exact (ful_aft hV x1).1
  have z1 : 0 ≤ s3 3 ∧ s3 3 ≤ 80 := V_3 hVM3
  have z2 : 0 ≤ s3 4 ∧ s3 4 ≤ 16 := V_4 hVM3
  refine ok_istoren (pc' := 11) (ls' := [aR O, aI x1, aI (fulN q s x1)]) i233_10 (bt rfl) rfl rfl <| ok_aloadn (pc' := 12) i233_11 rfl rfl <| ok_iconst (pc' := 13) i233_12 rfl <| ?_
  refine ok_cn0 (pc' := 16) (d0 := 0) i233_13 rfl (cl_v o233 m9_323 na242 rfl rfl (bt rfl) (bt rfl) rfl (by rw [ShModel_k0 hSO, o242])) ln242 (pd242 (aR O) (aI 0)) (by omega) (t242k hSO p2 (by rw [p4]) (by rw [hRO.1]; exact by rw [hs3]; exact (out_ful hV x1).1)) rfl (fun M5 p6 => ?_)
  have hFM5 : RepO M5 O q s := by rw [p6]; exact hKM1
  have hwM5 : WI M M5 O := by rw [p6]; exact keep_wi p2
  refine ok_iloadn (pc' := 17) i233_16 rfl rfl <| ok_ireti i233_17 rt233 <| ?_
  exact ⟨rfl, rfl, hwM5⟩
theorem t244 {g : AG} {M : AM} {O : Nat} {s q : Int → Int} {b : Int} {x1 : Int} (hSO : ShModel g O) (hRO : RepO M O q s) (hV : Val b q s) (hQ : ValQ q) (h1 : 0 ≤ x1 ∧ x1 < 4) (hb : b + 7 ≤ 1000000) :
    Ok 7 244 0 [aR O, aI x1, aU, aU, aU] [] g M (Rt (some (aI (lossS q s x1))) g (fun M9 => WI M M9 O)) := by
  have ys3 : 0 ≤ s 3 ∧ s 3 ≤ 80 := V_3 hV
  have ys4 : 0 ≤ s 4 ∧ s 4 ≤ 16 := V_4 hV
  have yq0 : 0 ≤ q 0 ∧ q 0 ≤ 4 := Q_0 hQ
  have yq1 : 0 ≤ q 1 ∧ q 1 ≤ 6 := Q_1 hQ
  refine ok_aloadn (pc' := 1) i244_0 rfl rfl <| ok_iconst (pc' := 2) i244_1 rfl <| ?_
  refine ok_cn0 (pc' := 5) (d0 := 0) i244_2 rfl (cl_v o244 m9_314 na234 rfl rfl (bt rfl) (bt rfl) rfl (by rw [ShModel_k0 hSO, o234])) ln234 (pd234 (aR O) (aI 0)) (by omega) (t234 (x1 := 0) hSO (by omega)) rfl (fun M1 p2 => ?_)
  have hKM1 : RepO M1 O q s := (keep_wi p2).repO hRO
  refine ok_aloadn (pc' := 6) i244_5 rfl rfl <| ok_getfr (r := (O + 5)) (pc' := 9) i244_6 o244 gr9_22 (ShModel_k0 hSO) (ShModel_r8 hSO) rfl <| ok_bipush (v := 9) (pc' := 11) i244_9 rfl rfl <| ok_iaload (v := (s 9)) (pc' := 12) i244_11 (ShModel_k5 hSO) (by decide) (ShModel_l5 hSO) (by decide) (RepO_s hKM1) rfl <| ok_istoren (pc' := 13) (ls' := [aR O, aI x1, aI (s 9), aU, aU]) i244_12 (bt rfl) rfl rfl <| ok_aloadn (pc' := 14) i244_13 rfl rfl <| ok_iloadn (pc' := 15) i244_14 rfl rfl <| ?_
  refine ok_cn (pc' := 18) (d0 := 6) i244_15 rfl (cl_v o244 m9_317 na235 rfl rfl (bt rfl) (bt rfl) rfl (by rw [ShModel_k0 hSO, o235])) ln235 (pd235 (aR O) (aI x1)) (by omega) (t235 (x1 := x1) hSO hKM1 hV hQ (by omega) (by omega)) rfl (fun M3 p4 => ?_)
  obtain ⟨s3, hs3⟩ : ∃ u9 : Int → Int, u9 = (fulS q s x1) := ⟨_, rfl⟩
  rw [← hs3] at p4
  have hRM3 : RepO M3 O q s3 := by rw [p4]; exact RepO.upm hKM1
  have hVM3 : Val (b) q s3 := by rw [hs3]; exact (ful_aft hV x1).1
  have z1 : 0 ≤ s3 3 ∧ s3 3 ≤ 80 := V_3 hVM3
  have z2 : 0 ≤ s3 4 ∧ s3 4 ≤ 16 := V_4 hVM3
  refine ok_aloadn (pc' := 19) i244_18 rfl rfl <| ?_
  refine ok_cn (pc' := 22) (d0 := 2) i244_19 rfl (cl_v o244 m9_320 na245 rfl rfl (bt rfl) (bt rfl) rfl (by rw [ShModel_k0 hSO, o245])) ln245 (pd245 (aR O)) (by omega) (t245 hSO hRM3 hVM3 hQ) rfl (fun M5 p6 => ?_)
  obtain ⟨s5, hs5⟩ : ∃ u9 : Int → Int, u9 = (endS q s3) := ⟨_, rfl⟩
  rw [← hs5] at p6
  have hRM5 : RepO M5 O q s5 := by rw [p6]; exact RepO.upm hRM3
  have hVM5 : Val (b + 1) q s5 := by rw [hs5]; exact (end_aft hVM3 (by omega)).1
  have z3 : 0 ≤ s5 3 ∧ s5 3 ≤ 80 := V_3 hVM5
  have z4 : 0 ≤ s5 4 ∧ s5 4 ≤ 16 := V_4 hVM5
  refine ok_iadd (v := ((fulN q s x1) + (endN q s3))) (pc' := 23) i244_22 rfl rfl <| ok_istoren (pc' := 24) (ls' := [aR O, aI x1, aI (s 9), aI ((fulN q s x1) + (endN q s3)), aU]) i244_23 (bt rfl) rfl rfl <| ok_aloadn (pc' := 25) i244_24 rfl rfl <| ok_getfr (r := (O + 5)) (pc' := 28) i244_25 o244 gr9_22 (ShModel_k0 hSO) (ShModel_r8 hSO) rfl <| ok_bipush (v := 9) (pc' := 30) i244_28 rfl rfl <| ok_iaload (v := (s5 9)) (pc' := 31) i244_30 (ShModel_k5 hSO) (by decide) (ShModel_l5 hSO) (by decide) (RepO_s hRM5) rfl <| ok_iloadn (pc' := 32) i244_31 rfl rfl <| ok_isub (v := ((s5 9) - (s 9))) (pc' := 33) i244_32 rfl rfl <| ?_
  refine ok_istore (pc' := 35) (ls' := [aR O, aI x1, aI (s 9), aI ((fulN q s x1) + (endN q s3)), aI ((s5 9) - (s 9))]) i244_33 (bt rfl) rfl rfl <| ok_aloadn (pc' := 36) i244_35 rfl rfl <| ok_iconst (pc' := 37) i244_36 rfl <| ?_
  refine ok_cn0 (pc' := 40) (d0 := 0) i244_37 rfl (cl_v o244 m9_323 na242 rfl rfl (bt rfl) (bt rfl) rfl (by rw [ShModel_k0 hSO, o242])) ln242 (pd242 (aR O) (aI 0)) (by omega) (t242k hSO p2 (by rw [p6, p4, upM_upM]) (by rw [hRO.1]; exact (by rw [hs5, hs3]; exact (out_ful hV x1).1.trans (end_aft (ful_aft hV x1).1 (by omega)).2.1))) rfl (fun M7 p8 => ?_)
  have hFM7 : RepO M7 O q s := by rw [p8]; exact hKM1
  have hwM7 : WI M M7 O := by rw [p8]; exact keep_wi p2
  refine ok_iload (pc' := 42) i244_40 rfl rfl <| ok_ireti i244_42 rt244 <| ?_
  have e : lossS q s x1 = ((s5 9) - (s 9)) := by rw [hs5, hs3]; rfl
  exact ⟨by rw [e], rfl, hwM7⟩
theorem w250_15 {d : Nat} {Q : AO → AG → AM → Prop} {g : AG} {M : AM} {O : Nat} {q s : Int → Int} {b x1 x2 : Int} {w4 : AV} (hSO : ShModel g O) (hRO : RepO M O q s) (hV : Val b q s) (hQ : ValQ q) (h1 : 0 ≤ x1 ∧ x1 < q 0) (h2 : 0 ≤ x2 ∧ x2 ≤ 12) (h3 : s 3 + 12 ≤ 80) (hb : b + 7 ≤ 1000000) (hw4 : am_cat w4 = 1)
    (K : ∀ M1 t, M1 = upM M (O + 5) t → Val b q t → Out s t → t = addN q s x1 x2.toNat → ∀ ls, ls = [aR O, aI x1, aI x2, aI x2, w4] → Ok (d + 7) 250 31 ls [] g M1 Q) :
    Ok (d + 7) 250 15 [aR O, aI x1, aI x2, aI 0, w4] [] g M Q := by
  refine ok_for (lo := 0) (n := x2.toNat) (f := fun _ t => addT t x1 (q (2 + x1))) (a0 := s) (fun x3 t ls M9 => M9 = upM M (O + 5) t ∧ Val b q t ∧ Out s t ∧ t 3 = s 3 + x3 ∧ ls = [aR O, aI x1, aI x2, aI x3, w4]) ?_ ?_ _ _ ⟨by rw [← hRO.1]; exact upM_self.symm, hV, Out.rfl, by omega, rfl⟩
  · rintro x3 t ls M9 g1 g2 ⟨hM, hV9, ho, e3, rfl⟩ ih
    have g3 : x3 < x2 := by omega
    have hR9 : RepO M9 O q t := by rw [hM]; exact RepO.upm hRO
    have yt3 := V_3 hV9
    have yt4 := V_4 hV9
    refine ok_iloadn (pc' := 16) i250_15 rfl rfl <| ok_iloadn (pc' := 17) i250_16 rfl rfl <| ?_
    refine ok_cge (pc1 := 31) (pc2 := 20) i250_17 (by omega) rfl rfl (fun h9 => by exfalso; omega) (fun h1 => ?_)
    refine ok_aloadn (pc' := 21) i250_20 rfl rfl <| ok_iloadn (pc' := 22) i250_21 rfl rfl <| ?_
    refine ok_cn0 (pc' := 25) (d0 := 0) i250_22 rfl (cl_v o250 m9_335 na251 rfl rfl (bt rfl) (bt rfl) rfl (by rw [ShModel_k0 hSO, o251])) ln251 (pd251 (aR O) (aI x1)) (by omega) (t251 (x1 := x1) hSO hR9 hV9 hQ (by omega) (by omega)) rfl (fun M2 p3 => ?_)
    obtain ⟨s2, hs2⟩ : ∃ u9 : Int → Int, u9 = addS q t x1 := ⟨_, rfl⟩
    rw [← hs2] at p3
    have hRM2 : RepO M2 O q s2 := by rw [p3]; exact RepO.upm hR9
    have hVM2 : Val (b) q s2 := by rw [hs2]; exact V_add hV9 (by omega) (by omega) (Q_2 hQ (by omega) (by omega))
    have z61 : 0 ≤ s2 3 ∧ s2 3 ≤ 80 := V_3 hVM2
    have z62 : 0 ≤ s2 4 ∧ s2 4 ≤ 16 := V_4 hVM2
    refine ok_iinc (pc' := 28) (v := (x3 + 1)) (ls' := [aR O, aI x1, aI x2, aI (x3 + 1), w4]) i250_25 rfl rfl rfl rfl <| ok_goto (pc' := 15) i250_28 rfl <| ?_
    have h8 : Val b q (addS q t x1) := by rw [← hs2]; exact hVM2
    refine ih _ _ ⟨by rw [p3, hM, upM_upM, hs2]; rfl, h8, ?_, ?_, rfl⟩
    · exact ho.trans (out_add (by omega))
    · show addT t x1 (q (2 + x1)) 3 = _
      rw [show addT t x1 (q (2 + x1)) 3 = t 3 + 1 from upI_eq]; omega
  · rintro x3 t ls M9 g1 g2 ⟨hM, hV9, ho, e3, rfl⟩
    have g3 : x3 = x2 := by omega
    have hR9 : RepO M9 O q t := by rw [hM]; exact RepO.upm hRO
    have yt3 := V_3 hV9
    have yt4 := V_4 hV9
    refine ok_iloadn (pc' := 16) i250_15 rfl rfl <| ok_iloadn (pc' := 17) i250_16 rfl rfl <| ?_
    refine ok_cge (pc1 := 31) (pc2 := 20) i250_17 (by omega) rfl rfl (fun h1 => ?_) (fun h9 => by exfalso; omega)
    exact K M9 _ hM hV9 ho g2.symm _ (by rw [g3])
theorem t250 {g : AG} {M : AM} {O : Nat} {s q : Int → Int} {b : Int} {x1 : Int} (hSO : ShModel g O) (hRO : RepO M O q s) (hV : Val b q s) (hQ : ValQ q) (h1 : 0 ≤ x1 ∧ x1 < q 0) (h3 : s 3 ≤ 40) (hb : b + 7 ≤ 1000000) :
    Ok 7 250 0 [aR O, aI x1, aU, aU, aU] [] g M (Rt (some (aI (needS q s x1))) g (fun M9 => WI M M9 O)) := by
  have ys3 : 0 ≤ s 3 ∧ s 3 ≤ 80 := V_3 hV
  have ys4 : 0 ≤ s 4 ∧ s 4 ≤ 16 := V_4 hV
  have yq0 : 0 ≤ q 0 ∧ q 0 ≤ 4 := Q_0 hQ
  have yq1 : 0 ≤ q 1 ∧ q 1 ≤ 6 := Q_1 hQ
  refine ok_iconst (pc' := 1) i250_0 rfl <| ok_istoren (pc' := 2) (ls' := [aR O, aI x1, aI 0, aU, aU]) i250_1 (bt rfl) rfl rfl <| ?_
  refine ok_forx (lo := 0) (n := 13) (f := needF q s x1) (a0 := 0) (fun x2 a ls M9 => WI M M9 O ∧ ∃ w3 w4 : AV, am_cat w3 = 1 ∧ am_cat w4 = 1 ∧ ls = [aR O, aI x1, aI x2, w3, w4]) ?_ ?_ _ _ ⟨WI.rfl, aU, aU, rfl, rfl, rfl⟩
  · rintro x2 a ls M9 g1 g2 ⟨hW9, w3, w4, hw3, hw4, rfl⟩ hr ih
    have g3 : x2 < 13 := by omega
    have hR9 : RepO M9 O q s := hW9.repO hRO
    refine ok_iloadn (pc' := 3) i250_2 rfl rfl <| ok_bipush (v := 12) (pc' := 5) i250_3 rfl rfl <| ?_
    refine ok_cgt (pc1 := 61) (pc2 := 8) i250_5 (by omega) rfl rfl (fun h9 => by exfalso; omega) (fun h1 => ?_)
    refine ok_aloadn (pc' := 9) i250_8 rfl rfl <| ok_iconst (pc' := 10) i250_9 rfl <| ?_
    refine ok_cn0 (pc' := 13) (d0 := 0) i250_10 rfl (cl_v o250 m9_314 na234 rfl rfl (bt rfl) (bt rfl) rfl (by rw [ShModel_k0 hSO, o234])) ln234 (pd234 (aR O) (aI 0)) (by omega) (t234 (x1 := 0) hSO (by omega)) rfl (fun M2 p3 => ?_)
    have hKM2 : RepO M2 O q s := (keep_wi p3).repO hR9
    refine ok_iconst (pc' := 14) i250_13 rfl <| ok_istoren (pc' := 15) (ls' := [aR O, aI x1, aI x2, aI 0, w4]) i250_14 (bt rfl) rfl rfl <| ?_
    refine w250_15 (b := b) hSO hKM2 hV hQ (by omega) (by omega) (by omega) (by omega) hw4 (fun M7 t7 hM7 hV7 ho7 e7 ls8 hls => ?_)
    subst hls
    have hR7 : RepO M7 O q t7 := by rw [hM7]; exact RepO.upm hKM2
    have y73 := V_3 hV7
    have y74 := V_4 hV7
    refine ok_aloadn (pc' := 32) i250_31 rfl rfl <| ok_iconst (pc' := 33) i250_32 rfl <| ?_
    refine ok_cn (pc' := 36) (d0 := 6) i250_33 rfl (cl_v o250 m9_317 na235 rfl rfl (bt rfl) (bt rfl) rfl (by rw [ShModel_k0 hSO, o235])) ln235 (pd235 (aR O) (aI 1)) (by omega) (t235 (x1 := 1) hSO hR7 hV7 hQ (by omega) (by omega)) rfl (fun M4 p5 => ?_)
    obtain ⟨s4, hs4⟩ : ∃ u9 : Int → Int, u9 = (fulS q t7 1) := ⟨_, rfl⟩
    rw [← hs4] at p5
    have hRM4 : RepO M4 O q s4 := by rw [p5]; exact RepO.upm hR7
    have hVM4 : Val (b) q s4 := by rw [hs4]; exact (ful_aft hV7 1).1
    have z61 : 0 ≤ s4 3 ∧ s4 3 ≤ 80 := V_3 hVM4
    have z62 : 0 ≤ s4 4 ∧ s4 4 ≤ 16 := V_4 hVM4
    refine ok_istoren (pc' := 37) (ls' := [aR O, aI x1, aI x2, aI (fulN q t7 1), w4]) i250_36 (bt rfl) rfl rfl <| ok_aloadn (pc' := 38) i250_37 rfl rfl <| ok_cp (pc' := 41) (d0 := 1) i250_38 rfl (cl_v o250 m9_235 na192 rfl rfl (bt rfl) (bt rfl) rfl (by rw [ShModel_k0 hSO, o192])) ln192 (pd192 (aR O)) (by omega) (t192 hSO hRM4.toE hVM4 hQ) rfl <| ?_
    have z63 : 0 ≤ (r192 s4) ∧ (r192 s4) ≤ 144 := x192 (M := M4) hSO hRM4.toE hVM4 hQ
    refine ok_istore (pc' := 43) (ls' := [aR O, aI x1, aI x2, aI (fulN q t7 1), aI (r192 s4)]) i250_41 (bt rfl) rfl rfl <| ok_aloadn (pc' := 44) i250_43 rfl rfl <| ok_iconst (pc' := 45) i250_44 rfl <| ?_
    refine ok_cn0 (pc' := 48) (d0 := 0) i250_45 rfl (cl_v o250 m9_323 na242 rfl rfl (bt rfl) (bt rfl) rfl (by rw [ShModel_k0 hSO, o242])) ln242 (pd242 (aR O) (aI 0)) (by omega) (t242k hSO p3 (by rw [p5, hM7, upM_upM]) (by rw [hR9.1]; exact (by rw [hs4]; exact ho7.trans (out_ful hV7 1).1))) rfl (fun M6 p7 => ?_)
    have hFM6 : RepO M6 O q s := by rw [p7]; exact hKM2
    have hwM6 : WI M9 M6 O := by rw [p7]; exact keep_wi p3
    refine ok_iload (pc' := 50) i250_48 rfl rfl <| ?_
    refine ok_zne (pc1 := 55) (pc2 := 53) i250_50 (by omega) rfl rfl (fun h8 => ?_) (fun h8 => ?_)
    · refine ok_iinc (pc' := 58) (v := (x2 + 1)) (ls' := [aR O, aI x1, aI (x2 + 1), aI (fulN q t7 1), aI (r192 s4)]) i250_55 rfl rfl rfl rfl <| ok_goto (pc' := 2) i250_58 rfl <| ?_
      have h20 : r192 s4 = r20 (fillS q (addN q s x1 x2.toNat) 1) := by rw [hs4, e7]; rfl
      have e : needF q s x1 x2 a = .inl 0 := by unfold needF; rw [if_neg (by omega)]
      exact ih _ _ _ e ⟨WI.trans hW9 hwM6, aI _, aI _, rfl, rfl, rfl⟩
    · refine ok_iloadn (pc' := 54) i250_53 rfl rfl <| ok_ireti i250_54 rt250 <| ?_
      have h20 : r192 s4 = r20 (fillS q (addN q s x1 x2.toNat) 1) := by rw [hs4, e7]; rfl
      have e : needF q s x1 x2 a = .inr x2 := by unfold needF; rw [if_pos (by omega)]
      have e9 : needS q s x1 = x2 := by unfold needS; rw [hr _ e]; rfl
      exact ⟨by rw [e9], rfl, WI.trans hW9 hwM6⟩
  · rintro x2 a ls M9 g1 g2 ⟨hW9, w3, w4, hw3, hw4, rfl⟩
    have g3 : x2 = 13 := by omega
    have hR9 : RepO M9 O q s := hW9.repO hRO
    refine ok_iloadn (pc' := 3) i250_2 rfl rfl <| ok_bipush (v := 12) (pc' := 5) i250_3 rfl rfl <| ?_
    refine ok_cgt (pc1 := 61) (pc2 := 8) i250_5 (by omega) rfl rfl (fun h1 => ?_) (fun h9 => by exfalso; omega)
    refine ok_iconst (pc' := 62) i250_61 rfl <| ok_ireti i250_62 rt250 <| ?_
    have e9 : needS q s x1 = -1 := by unfold needS; rw [g2]; rfl
    exact ⟨by rw [e9], rfl, hW9⟩
