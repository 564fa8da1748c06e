/-! READS, WHOLE: the reference (by program, wip/gen) -/
/-! READS, WHOLE: the reference -/
theorem pi166_80 : am_pfi 166 9 80 9 17 = true := by decide +kernel
theorem pi166_83 : am_pfi 166 9 83 9 18 = true := by decide +kernel
theorem pi166_106 : am_pfi 166 9 106 9 22 = true := by decide +kernel
theorem pi166_109 : am_pfi 166 9 109 9 23 = true := by decide +kernel
theorem pi166_148 : am_pfi 166 9 148 9 29 = true := by decide +kernel
theorem pi166_158 : am_pfi 166 9 158 9 30 = true := by decide +kernel
theorem t166 {g : AG} {M : AM} {O : Nat} {by_ : Int → Int} {n : Int} (hSO : ShModel g O) (hU : InU M O by_) (hn : 0 ≤ n ∧ n ≤ 700) (hO40 : 40 ≤ O) (hWD : WdsR g M) :
    Ok 6 166 0 [aR O, aI n, aU] [] g M (Rt none g (fun M9 => (∃ z0 : Int → Int, Z0 z0 ∧ LPe M9 O (txtL by_ n z0)) ∧ (∀ y : Int, y < 17 → M9 O y = M O y) ∧ (∀ y : Int, 30 < y → M9 O y = M O y) ∧ ∀ c, c ≠ O → (c < O + 9 ∨ O + 13 < c) → M9 c = M c)) := by
  refine ok_aloadn (pc' := 1) i166_0 rfl rfl <| ok_iloadn (pc' := 2) i166_1 rfl rfl <| ok_putfj (kk := 17) (pc' := 5) i166_2 o166 pi166_80 (ShModel_k0 hSO) rfl rfl <| ok_aloadn (pc' := 6) i166_5 rfl rfl <| ok_iconst (pc' := 7) i166_6 rfl <| ok_putfj (kk := 18) (pc' := 10) i166_7 o166 pi166_83 (ShModel_k0 hSO) rfl rfl <| ok_aloadn (pc' := 11) i166_10 rfl rfl <| ok_iconst (pc' := 12) i166_11 rfl <| ?_
  refine ok_putfj (kk := 22) (pc' := 15) i166_12 o166 pi166_106 (ShModel_k0 hSO) rfl rfl <| ok_aloadn (pc' := 16) i166_15 rfl rfl <| ok_iconst (pc' := 17) i166_16 rfl <| ok_putfj (kk := 23) (pc' := 20) i166_17 o166 pi166_109 (ShModel_k0 hSO) rfl rfl <| ok_aloadn (pc' := 21) i166_20 rfl rfl <| ok_iconst (pc' := 22) i166_21 rfl <| ok_putfj (kk := 29) (pc' := 25) i166_22 o166 pi166_148 (ShModel_k0 hSO) rfl rfl <| ok_aloadn (pc' := 26) i166_25 rfl rfl <| ?_
  refine ok_iconst (pc' := 27) i166_26 rfl <| ok_putfj (kk := 30) (pc' := 30) i166_27 o166 pi166_158 (ShModel_k0 hSO) rfl rfl <| ok_iconst (pc' := 31) i166_30 rfl <| ok_istoren (pc' := 32) (ls' := [aR O, aI n, aI 0]) i166_31 (bt rfl) rfl rfl <| ?_
  obtain ⟨M8, hM8⟩ : ∃ u9 : AM, u9 = (up2 (up2 (up2 (up2 (up2 (up2 M O 17 n) O 18 0) O 22 0) O 23 (-1)) O 29 0) O 30 0) := ⟨_, rfl⟩
  show Ok _ _ _ _ _ _ (up2 (up2 (up2 (up2 (up2 (up2 M O 17 n) O 18 0) O 22 0) O 23 (-1)) O 29 0) O 30 0) _
  rw [← hM8]
  have j17 : M8 O 17 = n := by rw [hM8, up2_rd, if_neg (by omega), up2_rd, if_neg (by omega), up2_rd, if_neg (by omega), up2_rd, if_neg (by omega), up2_rd, if_neg (by omega)]; exact rd_eq
  have j18 : M8 O 18 = 0 := by rw [hM8, up2_rd, if_neg (by omega), up2_rd, if_neg (by omega), up2_rd, if_neg (by omega), up2_rd, if_neg (by omega)]; exact rd_eq
  have j22 : M8 O 22 = 0 := by rw [hM8, up2_rd, if_neg (by omega), up2_rd, if_neg (by omega), up2_rd, if_neg (by omega)]; exact rd_eq
  have j29 : M8 O 29 = 0 := by rw [hM8, up2_rd, if_neg (by omega)]; exact rd_eq
  have j30 : M8 O 30 = 0 := by rw [hM8]; exact rd_eq
  have hY8 : ∀ y : Int, (y < 17 ∨ 30 < y) → M8 O y = M O y := fun y hy => by rw [hM8, up2_rd, if_neg (by omega), up2_rd, if_neg (by omega), up2_rd, if_neg (by omega), up2_rd, if_neg (by omega), up2_rd, if_neg (by omega), up2_rd, if_neg (by omega)]
  have hC8 : ∀ c, c ≠ O → M8 c = M c := fun c hc => by rw [hM8, up2_na hc, up2_na hc, up2_na hc, up2_na hc, up2_na hc, up2_na hc]
  refine ok_while (σ := Int) (fun k ls M9 => (0 ≤ k ∧ k ≤ 983) ∧ (∀ c, c ≠ O + 9 → M9 c = M8 c) ∧ (∀ j : Int, 0 ≤ j → j < k → M9 (O + 9) j = 0) ∧ ls = [aR O, aI n, aI k]) (fun k => (983 - k).toNat) ?_ 0 _ M8 ⟨by omega, fun c _ => rfl, fun j j0 j1 => by omega, rfl⟩
  rintro k ls M9 ⟨hk, hC9, hz9, rfl⟩ ih
  refine ok_iloadn (pc' := 33) i166_32 rfl rfl <| ok_sipush (v := 983) (pc' := 36) i166_33 rfl rfl <| ?_
  refine ok_cge (pc1 := 52) (pc2 := 39) i166_36 (by omega) rfl rfl (fun h301 => ?_) (fun h301 => ?_)
  · have hz : Z0 (M9 (O + 9)) := fun j j0 j1 => hz9 j j0 (by omega)
    have hRR : RepR M9 O zro (M9 (O + 9)) := ⟨rfl, (by rw [hC9 O (by omega)]; exact j29), (by rw [hC9 O (by omega)]; exact j30), fun i g0 g1 => absurd (show i < 0 from g1) (by omega), fun i g0 g1 => absurd (show i < 0 from g1) (by omega), fun i g0 g1 => absurd (show i < 0 from g1) (by omega), fun w hw hw2 => absurd (show (w : Int) < 0 from hw2) (by omega)⟩
    refine (w166_52 hSO (fun i h0 h1 => by rw [hC9 _ (by omega), hC8 _ (by omega)]; exact hU i h0 h1) (by rw [hC9 O (by omega)]; exact j17) hn hO40 (WdsR.fr hWD (fun c hc => by rw [hC9 _ (by omega), hC8 _ (by omega)])) (by rw [hC9 O (by omega)]; exact j18) (by rw [hC9 O (by omega)]; exact j22) hRR hz).mono (fun o g1 M1 h => ?_)
    obtain ⟨q1, q2, q3, q4, q5, q6⟩ := h
    exact ⟨q1, q2, ⟨M9 (O + 9), hz, q3⟩, fun y hy => (q4 y (by omega)).trans (by rw [hC9 O (by omega)]; exact hY8 y (by omega)), fun y hy => (q5 y hy).trans (by rw [hC9 O (by omega)]; exact hY8 y (by omega)), fun c h1 h2 => (q6 c h1 h2).trans ((hC9 c (by omega)).trans (hC8 c h1))⟩
  · refine ok_aloadn (pc' := 40) i166_39 rfl rfl <| ok_getfr (r := (O + 9)) (pc' := 43) i166_40 o166 gr9_42 (ShModel_k0 hSO) (ShModel_r24 hSO) rfl <| ok_iloadn (pc' := 44) i166_43 rfl rfl <| ok_iconst (pc' := 45) i166_44 rfl <| ok_iastore (pc' := 46) i166_45 (ShModel_k9 hSO) (ShModel_l9 hSO) (by omega) rfl <| ok_iinc (pc' := 49) (v := (k + 1)) (ls' := [aR O, aI n, aI (k + 1)]) i166_46 rfl rfl rfl rfl <| ok_goto (pc' := 32) i166_49 rfl <| ?_
    exact ih (k + 1) _ _ (by omega) ⟨by omega, fun c hc => by rw [up2_na hc]; exact hC9 c hc, fun j j0 j1 => (Decidable.em (j = k)).elim (fun e => by rw [e]; exact rd_eq) (fun e => by rw [up2_rd, if_neg (by omega)]; exact hz9 j j0 (by omega)), rfl⟩
