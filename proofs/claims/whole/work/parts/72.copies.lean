/-! COPIES: the reference (by program, wip/gen) -/
/-! COPIES: the reference -/
theorem rt186 : am_rt 186 = none := by decide +kernel
theorem t186a {g : AG} {M : AM} {O : Nat} (hSO : ShModel g O) :
    Ok 0 186 0 [aR (O + 10), aR (O + 1), aU] [] g M (Rt none g (fun M9 => (∀ c, c ≠ O + 1 → M9 c = M c) ∧ ∀ j : Int, 0 ≤ j → j < 4 → M9 (O + 1) j = M (O + 10) j)) := by
  refine ok_iconst (pc' := 1) i186_0 rfl <| ok_istoren (pc' := 2) (ls' := [aR (O + 10), aR (O + 1), aI 0]) i186_1 (bt rfl) rfl rfl <| ?_
  refine ok_while (σ := Int) (fun k ls M9 => (0 ≤ k ∧ k ≤ 4) ∧ (∀ c, c ≠ O + 1 → M9 c = M c) ∧ (∀ j : Int, 0 ≤ j → j < k → M9 (O + 1) j = M (O + 10) j) ∧ ls = [aR (O + 10), aR (O + 1), aI k]) (fun k => (4 - k).toNat) ?_ 0 _ M ⟨by omega, fun c _ => rfl, fun j j0 j1 => by omega, rfl⟩
  rintro k ls M9 ⟨hk, hC9, hz9, rfl⟩ ih
  refine ok_iloadn (pc' := 3) i186_2 rfl rfl <| ok_aloadn (pc' := 4) i186_3 rfl rfl <| ok_arrlen (v := 4) (pc' := 5) i186_4 (ShModel_k1 hSO) (by decide) (by rw [(ShModel_l1 hSO)] <;> rfl) rfl <| ?_
  refine ok_cge (pc1 := 20) (pc2 := 8) i186_5 (by omega) rfl rfl (fun h301 => ?_) (fun h301 => ?_)
  · refine ok_vret i186_20 rt186 <| ?_
    exact ⟨rfl, rfl, fun c hc => hC9 c hc, fun j j0 j1 => hz9 j j0 (by omega)⟩
  · refine ok_aloadn (pc' := 9) i186_8 rfl rfl <| ok_iloadn (pc' := 10) i186_9 rfl rfl <| ok_aloadn (pc' := 11) i186_10 rfl rfl <| ok_iloadn (pc' := 12) i186_11 rfl rfl <| ok_iaload (v := (M9 (O + 10) k)) (pc' := 13) i186_12 (ShModel_k10 hSO) (by decide) (ShModel_l10 hSO) (by omega) rfl rfl <| ok_iastore (pc' := 14) i186_13 (ShModel_k1 hSO) (ShModel_l1 hSO) (by omega) rfl <| ok_iinc (pc' := 17) (v := (k + 1)) (ls' := [aR (O + 10), aR (O + 1), aI (k + 1)]) i186_14 rfl rfl rfl rfl <| ok_goto (pc' := 2) i186_17 rfl <| ?_
    exact ih (k + 1) _ _ (by omega) ⟨by omega, fun c hc => by rw [up2_na hc]; exact hC9 c hc, fun j j0 j1 => (Decidable.em (j = k)).elim (fun e => by rw [e, rd_eq, hC9 _ (by omega)]) (fun e => by rw [up2_rd, if_neg (by omega)]; exact hz9 j j0 (by omega)), rfl⟩
theorem t186b {g : AG} {M : AM} {O : Nat} (hSO : ShModel g O) :
    Ok 0 186 0 [aR (O + 11), aR (O + 2), aU] [] g M (Rt none g (fun M9 => (∀ c, c ≠ O + 2 → M9 c = M c) ∧ ∀ j : Int, 0 ≤ j → j < 4 → M9 (O + 2) j = M (O + 11) j)) := by
  refine ok_iconst (pc' := 1) i186_0 rfl <| ok_istoren (pc' := 2) (ls' := [aR (O + 11), aR (O + 2), aI 0]) i186_1 (bt rfl) rfl rfl <| ?_
  refine ok_while (σ := Int) (fun k ls M9 => (0 ≤ k ∧ k ≤ 4) ∧ (∀ c, c ≠ O + 2 → M9 c = M c) ∧ (∀ j : Int, 0 ≤ j → j < k → M9 (O + 2) j = M (O + 11) j) ∧ ls = [aR (O + 11), aR (O + 2), aI k]) (fun k => (4 - k).toNat) ?_ 0 _ M ⟨by omega, fun c _ => rfl, fun j j0 j1 => by omega, rfl⟩
  rintro k ls M9 ⟨hk, hC9, hz9, rfl⟩ ih
  refine ok_iloadn (pc' := 3) i186_2 rfl rfl <| ok_aloadn (pc' := 4) i186_3 rfl rfl <| ok_arrlen (v := 4) (pc' := 5) i186_4 (ShModel_k2 hSO) (by decide) (by rw [(ShModel_l2 hSO)] <;> rfl) rfl <| ?_
  refine ok_cge (pc1 := 20) (pc2 := 8) i186_5 (by omega) rfl rfl (fun h301 => ?_) (fun h301 => ?_)
  · refine ok_vret i186_20 rt186 <| ?_
    exact ⟨rfl, rfl, fun c hc => hC9 c hc, fun j j0 j1 => hz9 j j0 (by omega)⟩
  · refine ok_aloadn (pc' := 9) i186_8 rfl rfl <| ok_iloadn (pc' := 10) i186_9 rfl rfl <| ok_aloadn (pc' := 11) i186_10 rfl rfl <| ok_iloadn (pc' := 12) i186_11 rfl rfl <| ok_iaload (v := (M9 (O + 11) k)) (pc' := 13) i186_12 (ShModel_k11 hSO) (by decide) (ShModel_l11 hSO) (by omega) rfl rfl <| ok_iastore (pc' := 14) i186_13 (ShModel_k2 hSO) (ShModel_l2 hSO) (by omega) rfl <| ok_iinc (pc' := 17) (v := (k + 1)) (ls' := [aR (O + 11), aR (O + 2), aI (k + 1)]) i186_14 rfl rfl rfl rfl <| ok_goto (pc' := 2) i186_17 rfl <| ?_
    exact ih (k + 1) _ _ (by omega) ⟨by omega, fun c hc => by rw [up2_na hc]; exact hC9 c hc, fun j j0 j1 => (Decidable.em (j = k)).elim (fun e => by rw [e, rd_eq, hC9 _ (by omega)]) (fun e => by rw [up2_rd, if_neg (by omega)]; exact hz9 j j0 (by omega)), rfl⟩
theorem t186c {g : AG} {M : AM} {O : Nat} (hSO : ShModel g O) :
    Ok 0 186 0 [aR (O + 12), aR (O + 3), aU] [] g M (Rt none g (fun M9 => (∀ c, c ≠ O + 3 → M9 c = M c) ∧ ∀ j : Int, 0 ≤ j → j < 6 → M9 (O + 3) j = M (O + 12) j)) := by
  refine ok_iconst (pc' := 1) i186_0 rfl <| ok_istoren (pc' := 2) (ls' := [aR (O + 12), aR (O + 3), aI 0]) i186_1 (bt rfl) rfl rfl <| ?_
  refine ok_while (σ := Int) (fun k ls M9 => (0 ≤ k ∧ k ≤ 6) ∧ (∀ c, c ≠ O + 3 → M9 c = M c) ∧ (∀ j : Int, 0 ≤ j → j < k → M9 (O + 3) j = M (O + 12) j) ∧ ls = [aR (O + 12), aR (O + 3), aI k]) (fun k => (6 - k).toNat) ?_ 0 _ M ⟨by omega, fun c _ => rfl, fun j j0 j1 => by omega, rfl⟩
  rintro k ls M9 ⟨hk, hC9, hz9, rfl⟩ ih
  refine ok_iloadn (pc' := 3) i186_2 rfl rfl <| ok_aloadn (pc' := 4) i186_3 rfl rfl <| ok_arrlen (v := 6) (pc' := 5) i186_4 (ShModel_k3 hSO) (by decide) (by rw [(ShModel_l3 hSO)] <;> rfl) rfl <| ?_
  refine ok_cge (pc1 := 20) (pc2 := 8) i186_5 (by omega) rfl rfl (fun h301 => ?_) (fun h301 => ?_)
  · refine ok_vret i186_20 rt186 <| ?_
    exact ⟨rfl, rfl, fun c hc => hC9 c hc, fun j j0 j1 => hz9 j j0 (by omega)⟩
  · refine ok_aloadn (pc' := 9) i186_8 rfl rfl <| ok_iloadn (pc' := 10) i186_9 rfl rfl <| ok_aloadn (pc' := 11) i186_10 rfl rfl <| ok_iloadn (pc' := 12) i186_11 rfl rfl <| ok_iaload (v := (M9 (O + 12) k)) (pc' := 13) i186_12 (ShModel_k12 hSO) (by decide) (ShModel_l12 hSO) (by omega) rfl rfl <| ok_iastore (pc' := 14) i186_13 (ShModel_k3 hSO) (ShModel_l3 hSO) (by omega) rfl <| ok_iinc (pc' := 17) (v := (k + 1)) (ls' := [aR (O + 12), aR (O + 3), aI (k + 1)]) i186_14 rfl rfl rfl rfl <| ok_goto (pc' := 2) i186_17 rfl <| ?_
    exact ih (k + 1) _ _ (by omega) ⟨by omega, fun c hc => by rw [up2_na hc]; exact hC9 c hc, fun j j0 j1 => (Decidable.em (j = k)).elim (fun e => by rw [e, rd_eq, hC9 _ (by omega)]) (fun e => by rw [up2_rd, if_neg (by omega)]; exact hz9 j j0 (by omega)), rfl⟩
theorem t186d {g : AG} {M : AM} {O : Nat} (hSO : ShModel g O) :
    Ok 0 186 0 [aR (O + 13), aR (O + 4), aU] [] g M (Rt none g (fun M9 => (∀ c, c ≠ O + 4 → M9 c = M c) ∧ ∀ j : Int, 0 ≤ j → j < 36 → M9 (O + 4) j = M (O + 13) j)) := by
  refine ok_iconst (pc' := 1) i186_0 rfl <| ok_istoren (pc' := 2) (ls' := [aR (O + 13), aR (O + 4), aI 0]) i186_1 (bt rfl) rfl rfl <| ?_
  refine ok_while (σ := Int) (fun k ls M9 => (0 ≤ k ∧ k ≤ 36) ∧ (∀ c, c ≠ O + 4 → M9 c = M c) ∧ (∀ j : Int, 0 ≤ j → j < k → M9 (O + 4) j = M (O + 13) j) ∧ ls = [aR (O + 13), aR (O + 4), aI k]) (fun k => (36 - k).toNat) ?_ 0 _ M ⟨by omega, fun c _ => rfl, fun j j0 j1 => by omega, rfl⟩
  rintro k ls M9 ⟨hk, hC9, hz9, rfl⟩ ih
  refine ok_iloadn (pc' := 3) i186_2 rfl rfl <| ok_aloadn (pc' := 4) i186_3 rfl rfl <| ok_arrlen (v := 36) (pc' := 5) i186_4 (ShModel_k4 hSO) (by decide) (by rw [(ShModel_l4 hSO)] <;> rfl) rfl <| ?_
  refine ok_cge (pc1 := 20) (pc2 := 8) i186_5 (by omega) rfl rfl (fun h301 => ?_) (fun h301 => ?_)
  · refine ok_vret i186_20 rt186 <| ?_
    exact ⟨rfl, rfl, fun c hc => hC9 c hc, fun j j0 j1 => hz9 j j0 (by omega)⟩
  · refine ok_aloadn (pc' := 9) i186_8 rfl rfl <| ok_iloadn (pc' := 10) i186_9 rfl rfl <| ok_aloadn (pc' := 11) i186_10 rfl rfl <| ok_iloadn (pc' := 12) i186_11 rfl rfl <| ok_iaload (v := (M9 (O + 13) k)) (pc' := 13) i186_12 (ShModel_k13 hSO) (by decide) (ShModel_l13 hSO) (by omega) rfl rfl <| ok_iastore (pc' := 14) i186_13 (ShModel_k4 hSO) (ShModel_l4 hSO) (by omega) rfl <| ok_iinc (pc' := 17) (v := (k + 1)) (ls' := [aR (O + 13), aR (O + 4), aI (k + 1)]) i186_14 rfl rfl rfl rfl <| ok_goto (pc' := 2) i186_17 rfl <| ?_
    exact ih (k + 1) _ _ (by omega) ⟨by omega, fun c hc => by rw [up2_na hc]; exact hC9 c hc, fun j j0 j1 => (Decidable.em (j = k)).elim (fun e => by rw [e, rd_eq, hC9 _ (by omega)]) (fun e => by rw [up2_rd, if_neg (by omega)]; exact hz9 j j0 (by omega)), rfl⟩
theorem t186e {g : AG} {M : AM} {O : Nat} (hSO : ShModel g O) :
    Ok 0 186 0 [aR (O + 9), aR (O + 5), aU] [] g M (Rt none g (fun M9 => (∀ c, c ≠ O + 5 → M9 c = M c) ∧ ∀ j : Int, 0 ≤ j → j < 983 → M9 (O + 5) j = M (O + 9) j)) := by
  refine ok_iconst (pc' := 1) i186_0 rfl <| ok_istoren (pc' := 2) (ls' := [aR (O + 9), aR (O + 5), aI 0]) i186_1 (bt rfl) rfl rfl <| ?_
  refine ok_while (σ := Int) (fun k ls M9 => (0 ≤ k ∧ k ≤ 983) ∧ (∀ c, c ≠ O + 5 → M9 c = M c) ∧ (∀ j : Int, 0 ≤ j → j < k → M9 (O + 5) j = M (O + 9) j) ∧ ls = [aR (O + 9), aR (O + 5), aI k]) (fun k => (983 - k).toNat) ?_ 0 _ M ⟨by omega, fun c _ => rfl, fun j j0 j1 => by omega, rfl⟩
  rintro k ls M9 ⟨hk, hC9, hz9, rfl⟩ ih
  refine ok_iloadn (pc' := 3) i186_2 rfl rfl <| ok_aloadn (pc' := 4) i186_3 rfl rfl <| ok_arrlen (v := 983) (pc' := 5) i186_4 (ShModel_k5 hSO) (by decide) (by rw [(ShModel_l5 hSO)] <;> rfl) rfl <| ?_
  refine ok_cge (pc1 := 20) (pc2 := 8) i186_5 (by omega) rfl rfl (fun h301 => ?_) (fun h301 => ?_)
  · refine ok_vret i186_20 rt186 <| ?_
    exact ⟨rfl, rfl, fun c hc => hC9 c hc, fun j j0 j1 => hz9 j j0 (by omega)⟩
  · refine ok_aloadn (pc' := 9) i186_8 rfl rfl <| ok_iloadn (pc' := 10) i186_9 rfl rfl <| ok_aloadn (pc' := 11) i186_10 rfl rfl <| ok_iloadn (pc' := 12) i186_11 rfl rfl <| ok_iaload (v := (M9 (O + 9) k)) (pc' := 13) i186_12 (ShModel_k9 hSO) (by decide) (ShModel_l9 hSO) (by omega) rfl rfl <| ok_iastore (pc' := 14) i186_13 (ShModel_k5 hSO) (ShModel_l5 hSO) (by omega) rfl <| ok_iinc (pc' := 17) (v := (k + 1)) (ls' := [aR (O + 9), aR (O + 5), aI (k + 1)]) i186_14 rfl rfl rfl rfl <| ok_goto (pc' := 2) i186_17 rfl <| ?_
    exact ih (k + 1) _ _ (by omega) ⟨by omega, fun c hc => by rw [up2_na hc]; exact hC9 c hc, fun j j0 j1 => (Decidable.em (j = k)).elim (fun e => by rw [e, rd_eq, hC9 _ (by omega)]) (fun e => by rw [up2_rd, if_neg (by omega)]; exact hz9 j j0 (by omega)), rfl⟩
