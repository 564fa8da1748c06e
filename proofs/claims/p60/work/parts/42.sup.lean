/-! SUPPLIES (by program, wip/gen) -/
theorem give_lo {s : Int → Int} {o k : Int} (ho : 0 ≤ o ∧ o < 16) (hk : k ≠ 10 ∧ k ≠ 12 ∧ (k < 414 ∨ 542 ≤ k)) : giveS s o k = s k := by
  unfold giveS give2
  simp only [upI]
  grind (splits := 40)
theorem give_ord {s : Int → Int} {o k : Int} (hk : 414 ≤ k ∧ k < 542) : giveS s o k = if k = (414 + (8 * o)) + 4 then s k - 1 else if k = (if s ((414 + (8 * o)) + 3) < s 0 then (414 + (8 * o)) + 6 else (414 + (8 * o)) + 5) then s k + 1 else s k := by
  unfold giveS give2
  simp only [upI]
  grind (splits := 40)
theorem V_give {b : Int} {q s : Int → Int} (hV : Val b q s) {o : Int} (ho : 0 ≤ o ∧ o < s 4) (hl : 1 ≤ s ((414 + (8 * o)) + 4)) : Val b q (giveS s o) := by
  have y3 := V_3 hV
  have y4 := V_4 hV
  have ho' : 0 ≤ o ∧ o < 16 := by omega
  have hk' : ∀ j : Int, j ≠ 10 ∧ j ≠ 12 ∧ (j < 414 ∨ 542 ≤ j) → giveS s o j = s j := fun j hj => give_lo ho' hj
  refine ⟨hV.1, by rw [hk' _ (by omega)]; exact hV.2.1, by rw [hk' _ (by omega)]; exact V_1 hV, by rw [hk' _ (by omega)]; exact V_2 hV, by rw [hk' _ (by omega)]; exact y3, by rw [hk' _ (by omega)]; exact y4, by rw [hk' _ (by omega)]; exact V_5 hV, ?_, ?_, ?_, V_q hV⟩
  · intro i h0 h1
    rw [hk' _ (by omega)] at h1
    have hi := hV.2.2.2.2.2.2.2.1 i h0 h1
    unfold RodV at hi ⊢
    rw [hk' _ (by omega), hk' _ (by omega), hk' _ (by omega), hk' _ (by omega)]
    exact hi
  · intro i h0 h1
    rw [hk' _ (by omega)] at h1
    have hi := hV.2.2.2.2.2.2.2.2.1 i h0 h1
    unfold OrdV at hi ⊢
    have c : ∀ k : Int, 414 ≤ k ∧ k < 542 → _ := fun k hk => give_ord (s := s) (o := o) hk
    rw [c (414 + 8 * i) (by omega), c (414 + 8 * i + 1) (by omega), c (414 + 8 * i + 2) (by omega), c (414 + 8 * i + 3) (by omega), c (414 + 8 * i + 4) (by omega), c (414 + 8 * i + 5) (by omega), c (414 + 8 * i + 6) (by omega), c (414 + 8 * i + 7) (by omega)]
    by_cases hio : i = o
    · subst hio
      grind (splits := 40)
    · grind (splits := 40)
  · intro l h0 h1
    rw [hk' _ (by omega)]
    exact hV.2.2.2.2.2.2.2.2.2.1 l h0 h1
theorem V_sto {b : Int} {q s : Int → Int} (hV : Val b q s) {l v : Int} (hl : 0 ≤ l ∧ l ≤ 200) (hv : 0 ≤ v ∧ v ≤ b) : Val b q (upI s (542 + l) v) := by
  have y3 := V_3 hV
  have y4 := V_4 hV
  have hk' : ∀ j : Int, j ≠ 542 + l → upI s (542 + l) v j = s j := fun j hj => upI_ne hj
  refine ⟨hV.1, by rw [hk' _ (by omega)]; exact hV.2.1, by rw [hk' _ (by omega)]; exact V_1 hV, by rw [hk' _ (by omega)]; exact V_2 hV, by rw [hk' _ (by omega)]; exact y3, by rw [hk' _ (by omega)]; exact y4, by rw [hk' _ (by omega)]; exact V_5 hV, ?_, ?_, ?_, V_q hV⟩
  · intro i h0 h1
    rw [hk' _ (by omega)] at h1
    have hi := hV.2.2.2.2.2.2.2.1 i h0 h1
    unfold RodV at hi ⊢
    rw [hk' _ (by omega), hk' _ (by omega), hk' _ (by omega), hk' _ (by omega)]
    exact hi
  · intro o h0 h1
    rw [hk' _ (by omega)] at h1
    have hi := hV.2.2.2.2.2.2.2.2.1 o h0 h1
    unfold OrdV at hi ⊢
    rw [hk' _ (by omega), hk' _ (by omega), hk' _ (by omega), hk' _ (by omega), hk' _ (by omega), hk' _ (by omega), hk' _ (by omega), hk' _ (by omega)]
    exact hi
  · intro j h0 h1
    unfold upI
    split
    · exact hv
    · exact hV.2.2.2.2.2.2.2.2.2.1 j h0 h1
def supC (o : Int) (_ : Int) (a : (Int → Int) × Int) : (Int → Int) × Int := (giveS a.1 o, a.2)
def supF (l o : Int) (_ : Int) (t : Int → Int) : Int → Int := giveS (upI t (542 + l) (t (542 + l) - 1)) o
def supM (s : Int → Int) (o l : Int) : Int := min (s (542 + l)) (s ((414 + (8 * o)) + 4))
def supS (s : Int → Int) (o l : Int) : Int → Int := itv (supF l o) s 0 (supM s o l).toNat
def supX (s : Int → Int) (o l : Int) : Int → Int := upI (itv (supC o) (s, 0) 0 (supM s o l).toNat).1 (542 + l) (s (542 + l) - supM s o l)
theorem sup_eq {s : Int → Int} {o l : Int} (ho : 0 ≤ o ∧ o < 16) (hl : 0 ≤ l ∧ l ≤ 200) (hn : 0 ≤ supM s o l) : supX s o l = supS s o l := by
  unfold supX supS
  have h := itv_congr (f := supC o) (f' := supF l o) (a0 := (s, 0)) (b0 := s) (lo := 0) (fun i a c => c = upI a.1 (542 + l) (s (542 + l) - i) ∧ a.1 (542 + l) = s (542 + l)) ⟨by funext k; unfold upI; split <;> grind, rfl⟩ (supM s o l).toNat (fun i a c h0 h1 h2 => by
    obtain ⟨rfl, h3⟩ := h2
    obtain ⟨t, n⟩ := a
    dsimp only at *
    refine ⟨?_, ?_⟩
    · funext k
      show giveS (upI (upI t (542 + l) (s (542 + l) - i)) (542 + l) (upI t (542 + l) (s (542 + l) - i) (542 + l) - 1)) o k = upI (giveS t o) (542 + l) (s (542 + l) - (i + 1)) k
      simp only [giveS, give2, upI]
      grind (splits := 60)
    · show giveS t o (542 + l) = _
      rw [give_lo ho (by omega)]
      exact h3)
  rw [h.1, Int.zero_add, Int.toNat_of_nonneg hn]
theorem V_supC {b : Int} {q t : Int → Int} {o c i : Int} (hV : Val b q t) (ho : 0 ≤ o ∧ o < t 4) (hl : 1 ≤ t ((414 + (8 * o)) + 4)) : Val b q (supC o i (t, c)).1 := V_give hV ho hl
theorem sup_aft {b : Int} {q s : Int → Int} (hV : Val b q s) {o l : Int} (ho : 0 ≤ o ∧ o < s 4) (hl : 0 ≤ l ∧ l ≤ 200) : ∀ k : Nat, (k : Int) ≤ supM s o l → Val b q (itv (supF l o) s 0 k) ∧ itv (supF l o) s 0 k (542 + l) = s (542 + l) - k ∧ itv (supF l o) s 0 k ((414 + (8 * o)) + 4) = s ((414 + (8 * o)) + 4) - k ∧ itv (supF l o) s 0 k 4 = s 4 ∧ itv (supF l o) s 0 k 3 = s 3 := by
  have y4 := V_4 hV
  have hb := V_b hV
  have hs := hV.2.2.2.2.2.2.2.2.2.1 l hl.1 hl.2
  intro k
  induction k with
  | zero => exact fun _ => ⟨hV, by show s _ = _; omega, by show s _ = _; omega, rfl, rfl⟩
  | succ k ih =>
    intro hk
    unfold supM at hk ih
    obtain ⟨h1, h2, h3, h4, h5⟩ := ih (by omega)
    show Val b q (supF l o (0 + (k : Int)) (itv (supF l o) s 0 k)) ∧ supF l o (0 + (k : Int)) (itv (supF l o) s 0 k) (542 + l) = _ ∧ supF l o (0 + (k : Int)) (itv (supF l o) s 0 k) ((414 + (8 * o)) + 4) = _ ∧ supF l o (0 + (k : Int)) (itv (supF l o) s 0 k) 4 = _ ∧ supF l o (0 + (k : Int)) (itv (supF l o) s 0 k) 3 = _
    generalize itv (supF l o) s 0 k = t at *
    unfold supF
    have hV2 := V_sto h1 hl (v := t (542 + l) - 1) (by omega)
    refine ⟨V_give hV2 (by rw [upI_ne (by omega)]; omega) (by rw [upI_ne (by omega)]; omega), ?_, ?_, ?_, ?_⟩
    · rw [give_lo (by omega) (by omega), upI_eq]; omega
    · rw [give_ord (by omega), if_pos rfl, upI_ne (by omega)]; omega
    · rw [give_lo (by omega) (by omega), upI_ne (by omega)]; exact h4
    · rw [give_lo (by omega) (by omega), upI_ne (by omega)]; exact h5
theorem o51 : am_oc 51 = 8 := by decide +kernel
theorem rt51 : am_rt 51 = none := by decide +kernel
theorem t51 {g : AG} {M : AM} {W P B : Nat} {q s : Int → Int} {b : Int} {x1 : Int} (hSW : ShWorks g W P B) (hSP : ShPlan g P) (hSB : ShState g B) (hRP : RepP M P q) (hRB : RepS M B s) (hQ : ValQ q) (hV : Val b q s) (h1 : 0 ≤ x1 ∧ x1 < s 4) (h9 : P + 11 ≤ B ∨ B + 24 ≤ P) :
    Ok 1 51 0 [aR W, aI x1, aU, aU, aU] [] g M (Rt none g (fun M9 => RepS M9 B (supX s x1 (s (414 + (8 * x1)))) ∧ Wr B 24 M M9)) := by
  have yq0 : 0 ≤ q 0 ∧ q 0 ≤ 4 := Q_0 hQ
  have yq1 : 0 ≤ q 1 ∧ q 1 ≤ 6 := Q_1 hQ
  have ys3 : 0 ≤ s 3 ∧ s 3 ≤ 80 := V_3 hV
  have ys4 : 0 ≤ s 4 ∧ s 4 ≤ 16 := V_4 hV
  have t1 : 1 ≤ (s (414 + (8 * x1))) ∧ (s (414 + (8 * x1))) ≤ 200 := V_o0 hV h1.1 h1.2
  have t2 : 0 ≤ s (542 + (s (414 + (8 * x1)))) ∧ s (542 + (s (414 + (8 * x1)))) ≤ 1000000 := V_s hV (by omega) (by omega)
  have t3 : 0 ≤ s ((414 + (8 * x1)) + 4) ∧ s ((414 + (8 * x1)) + 4) ≤ 9 := V_o4 hV h1.1 h1.2
  have t4 : 0 ≤ (min (s (542 + (s (414 + (8 * x1))))) (s ((414 + (8 * x1)) + 4))) ∧ (min (s (542 + (s (414 + (8 * x1))))) (s ((414 + (8 * x1)) + 4))) ≤ s (542 + (s (414 + (8 * x1)))) ∧ (min (s (542 + (s (414 + (8 * x1))))) (s ((414 + (8 * x1)) + 4))) ≤ s ((414 + (8 * x1)) + 4) := by omega
  refine ok_iloadn (pc' := 1) i51_0 rfl rfl <| ok_iconst (pc' := 2) i51_1 rfl <| ?_
  refine ok_cne (pc1 := 6) (pc2 := 5) i51_2 (by omega) rfl rfl (fun h1 => ?_) (fun h9 => by exfalso; omega)
  refine ok_aloadn (pc' := 7) i51_6 rfl rfl <| ok_getfr (r := B) (pc' := 10) i51_7 o51 gr8_15 (ShWorks_k0 hSW) (ShWorks_r1 hSW) rfl <| ok_getfr (r := (B + 8)) (pc' := 13) i51_10 o51 gr8_90 (ShState_k0 hSB) (ShState_r5 hSB) rfl <| ok_iconst (pc' := 14) i51_13 rfl <| ok_aaload (r := (B + 9)) (pc' := 15) i51_14 (ShState_k8 hSB) (by decide) (ShState_l8 hSB) (by decide) (ShState_e8_0 hSB) rfl <| ok_iloadn (pc' := 16) i51_15 rfl rfl <| ?_
  have z1 : 1 ≤ s (414 + (8 * x1)) ∧ s (414 + (8 * x1)) ≤ 200 := V_o0 hV (i := x1) (by omega) (by omega)
  refine ok_iaload (v := (s (414 + (8 * x1)))) (pc' := 17) i51_16 (ShState_k9 hSB) (by decide) (ShState_l9 hSB) (by omega) (RepS_9 hRB (by omega) (by omega)) rfl <| ok_istoren (pc' := 18) (ls' := [aR W, aI x1, aI (s (414 + (8 * x1))), aU, aU]) i51_17 (bt rfl) rfl rfl <| ok_aloadn (pc' := 19) i51_18 rfl rfl <| ok_getfr (r := B) (pc' := 22) i51_19 o51 gr8_15 (ShWorks_k0 hSW) (ShWorks_r1 hSW) rfl <| ok_getfr (r := (B + 17)) (pc' := 25) i51_22 o51 gr8_79 (ShState_k0 hSB) (ShState_r6 hSB) rfl <| ok_iloadn (pc' := 26) i51_25 rfl rfl <| ?_
  have z2 : 0 ≤ s (542 + (s (414 + (8 * x1)))) ∧ s (542 + (s (414 + (8 * x1)))) ≤ 1000000 := V_s hV (i := (s (414 + (8 * x1)))) (by omega) (by omega)
  refine ok_iaload (v := (s (542 + (s (414 + (8 * x1)))))) (pc' := 27) i51_26 (ShState_k17 hSB) (by decide) (ShState_l17 hSB) (by omega) (RepS_17 hRB (by omega) (by omega)) rfl <| ok_aloadn (pc' := 28) i51_27 rfl rfl <| ok_getfr (r := B) (pc' := 31) i51_28 o51 gr8_15 (ShWorks_k0 hSW) (ShWorks_r1 hSW) rfl <| ok_getfr (r := (B + 8)) (pc' := 34) i51_31 o51 gr8_90 (ShState_k0 hSB) (ShState_r5 hSB) rfl <| ok_iconst (pc' := 35) i51_34 rfl <| ok_aaload (r := (B + 13)) (pc' := 36) i51_35 (ShState_k8 hSB) (by decide) (ShState_l8 hSB) (by decide) (ShState_e8_4 hSB) rfl <| ok_iloadn (pc' := 37) i51_36 rfl rfl <| ?_
  have z3 : 0 ≤ s ((414 + (8 * x1)) + 4) ∧ s ((414 + (8 * x1)) + 4) ≤ 9 := V_o4 hV (i := x1) (by omega) (by omega)
  refine ok_iaload (v := (s ((414 + (8 * x1)) + 4))) (pc' := 38) i51_37 (ShState_k13 hSB) (by decide) (ShState_l13 hSB) (by omega) (RepS_13 hRB (by omega) (by omega)) rfl <| ok_min (v := (min (s (542 + (s (414 + (8 * x1))))) (s ((414 + (8 * x1)) + 4)))) (pc' := 41) i51_38 o51 m8_67 (by omega) (bt rfl) rfl rfl <| ?_
  have z4 : (min (s (542 + (s (414 + (8 * x1))))) (s ((414 + (8 * x1)) + 4))) ≤ (s (542 + (s (414 + (8 * x1))))) ∧ (min (s (542 + (s (414 + (8 * x1))))) (s ((414 + (8 * x1)) + 4))) ≤ (s ((414 + (8 * x1)) + 4)) := by omega
  have z5 : 0 ≤ (min (s (542 + (s (414 + (8 * x1))))) (s ((414 + (8 * x1)) + 4))) := by omega
  refine ok_istoren (pc' := 42) (ls' := [aR W, aI x1, aI (s (414 + (8 * x1))), aI (min (s (542 + (s (414 + (8 * x1))))) (s ((414 + (8 * x1)) + 4))), aU]) i51_41 (bt rfl) rfl rfl <| ok_iconst (pc' := 43) i51_42 rfl <| ok_istore (pc' := 45) (ls' := [aR W, aI x1, aI (s (414 + (8 * x1))), aI (min (s (542 + (s (414 + (8 * x1))))) (s ((414 + (8 * x1)) + 4))), aI 0]) i51_43 (bt rfl) rfl rfl <| ?_
  refine ok_for (lo := 0) (n := (min (s (542 + (s (414 + (8 * x1))))) (s ((414 + (8 * x1)) + 4))).toNat) (f := (supC x1)) (a0 := (s, 0)) (fun x4 a ls M9 => RepS M9 B a.1 ∧ Wr B 24 M M9 ∧ Val (b) q a.1 ∧ (a.1 ((414 + (8 * x1)) + 4) = s ((414 + (8 * x1)) + 4) - x4) ∧ (a.1 (542 + (s (414 + (8 * x1)))) = s (542 + (s (414 + (8 * x1))))) ∧ (a.1 4 = s 4) ∧ ls = [aR W, aI x1, aI (s (414 + (8 * x1))), aI (min (s (542 + (s (414 + (8 * x1))))) (s ((414 + (8 * x1)) + 4))), aI x4]) ?_ ?_ _ _ ⟨hRB, Wr.rfl, hV, by show s _ = s _ - 0; omega, rfl, rfl, rfl⟩
  · rintro x4 ⟨t, c⟩ ls M9 g1 g2 ⟨hR9, hW9, hV9, e_lk, e_st, e_k4, rfl⟩ ih
    dsimp only at *
    have g3 : x4 < (min (s (542 + (s (414 + (8 * x1))))) (s ((414 + (8 * x1)) + 4))) := by omega
    have hP9 : RepP M9 P q := RepP.fr hRP (fun a h1 h2 => hW9 a (by omega))
    have yt3 := V_3 hV9
    have yt4 := V_4 hV9
    refine ok_iload (pc' := 47) i51_45 rfl rfl <| ok_iloadn (pc' := 48) i51_47 rfl rfl <| ?_
    refine ok_cge (pc1 := 62) (pc2 := 51) i51_48 (by omega) rfl rfl (fun h9 => by exfalso; omega) (fun h1 => ?_)
    refine ok_aloadn (pc' := 52) i51_51 rfl rfl <| ok_iloadn (pc' := 53) i51_52 rfl rfl <| ok_cc i51_53 rfl (cl_v o51 m8_82 na45 rfl rfl (bt rfl) (bt rfl) rfl (by rw [ShWorks_k0 hSW, o45])) ln45 (pd45 (aR W) (aI x1)) <| ok_aloadn (pc' := 1) i45_0 rfl rfl <| ok_getfr (r := B) (pc' := 4) i45_1 o45 gr8_15 (ShWorks_k0 hSW) (ShWorks_r1 hSW) rfl <| ok_getfr (r := (B + 8)) (pc' := 7) i45_4 o45 gr8_90 (ShState_k0 hSB) (ShState_r5 hSB) rfl <| ok_iconst (pc' := 8) i45_7 rfl <| ok_aaload (r := (B + 11)) (pc' := 9) i45_8 (ShState_k8 hSB) (by decide) (ShState_l8 hSB) (by decide) (ShState_e8_2 hSB) rfl <| ?_
    refine ok_iloadn (pc' := 10) i45_9 rfl rfl <| ?_
    have z61 : 0 ≤ t ((414 + (8 * x1)) + 2) ∧ t ((414 + (8 * x1)) + 2) ≤ 99 := V_o2 hV9 (i := x1) (by omega) (by omega)
    refine ok_iaload (v := (t ((414 + (8 * x1)) + 2))) (pc' := 11) i45_10 (ShState_k11 hSB) (by decide) (ShState_l11 hSB) (by omega) (RepS_11 hR9 (by omega) (by omega)) rfl <| ok_istoren (pc' := 12) (ls' := [aR W, aI x1, aI (t ((414 + (8 * x1)) + 2))]) i45_11 (bt rfl) rfl rfl <| ok_aloadn (pc' := 13) i45_12 rfl rfl <| ok_getfr (r := B) (pc' := 16) i45_13 o45 gr8_15 (ShWorks_k0 hSW) (ShWorks_r1 hSW) rfl <| ok_getfr (r := (B + 8)) (pc' := 19) i45_16 o45 gr8_90 (ShState_k0 hSB) (ShState_r5 hSB) rfl <| ok_iconst (pc' := 20) i45_19 rfl <| ok_aaload (r := (B + 13)) (pc' := 21) i45_20 (ShState_k8 hSB) (by decide) (ShState_l8 hSB) (by decide) (ShState_e8_4 hSB) rfl <| ok_iloadn (pc' := 22) i45_21 rfl rfl <| ?_
    refine ok_dup2 (pc' := 23) i45_22 ⟨rfl, rfl⟩ rfl <| ?_
    have z62 : 0 ≤ t ((414 + (8 * x1)) + 4) ∧ t ((414 + (8 * x1)) + 4) ≤ 9 := V_o4 hV9 (i := x1) (by omega) (by omega)
    refine ok_iaload (v := (t ((414 + (8 * x1)) + 4))) (pc' := 24) i45_23 (ShState_k13 hSB) (by decide) (ShState_l13 hSB) (by omega) (RepS_13 hR9 (by omega) (by omega)) rfl <| ok_iconst (pc' := 25) i45_24 rfl <| ok_isub (v := ((t ((414 + (8 * x1)) + 4)) - 1)) (pc' := 26) i45_25 rfl rfl <| ok_iastore (pc' := 27) i45_26 (ShState_k13 hSB) (ShState_l13 hSB) (by omega) rfl <| ok_aloadn (pc' := 28) i45_27 rfl rfl <| ok_getfr (r := B) (pc' := 31) i45_28 o45 gr8_15 (ShWorks_k0 hSW) (ShWorks_r1 hSW) rfl <| ?_
    have z63 : 0 ≤ t 0 ∧ t 0 ≤ 1000000 := V_0 hV9
    refine ok_getfi (v := (t 0)) (pc' := 34) i45_31 o45 gi8_93 (ShState_k0 hSB) (rd_na (by omega) (RepS_f0 hR9)) rfl <| ok_aloadn (pc' := 35) i45_34 rfl rfl <| ok_getfr (r := B) (pc' := 38) i45_35 o45 gr8_15 (ShWorks_k0 hSW) (ShWorks_r1 hSW) rfl <| ok_getfr (r := (B + 8)) (pc' := 41) i45_38 o45 gr8_90 (ShState_k0 hSB) (ShState_r5 hSB) rfl <| ok_iconst (pc' := 42) i45_41 rfl <| ok_aaload (r := (B + 12)) (pc' := 43) i45_42 (ShState_k8 hSB) (by decide) (ShState_l8 hSB) (by decide) (ShState_e8_3 hSB) rfl <| ok_iloadn (pc' := 44) i45_43 rfl rfl <| ?_
    have z64 : 0 ≤ t ((414 + (8 * x1)) + 3) ∧ t ((414 + (8 * x1)) + 3) ≤ 999 := V_o3 hV9 (i := x1) (by omega) (by omega)
    refine ok_iaload (v := (t ((414 + (8 * x1)) + 3))) (pc' := 45) i45_44 (ShState_k12 hSB) (by decide) (ShState_l12 hSB) (by omega) (rd_na (by omega) (RepS_12 hR9 (by omega) (by omega))) rfl <| ?_
    refine ok_cgt (pc1 := 79) (pc2 := 48) i45_45 (by omega) rfl rfl (fun h2 => ?_) (fun h2 => ?_)
    · refine ok_aloadn (pc' := 80) i45_79 rfl rfl <| ok_getfr (r := B) (pc' := 83) i45_80 o45 gr8_15 (ShWorks_k0 hSW) (ShWorks_r1 hSW) rfl <| ok_getfr (r := (B + 8)) (pc' := 86) i45_83 o45 gr8_90 (ShState_k0 hSB) (ShState_r5 hSB) rfl <| ok_bipush (v := 6) (pc' := 88) i45_86 rfl rfl <| ok_aaload (r := (B + 15)) (pc' := 89) i45_88 (ShState_k8 hSB) (by decide) (ShState_l8 hSB) (by decide) (ShState_e8_6 hSB) rfl <| ok_iloadn (pc' := 90) i45_89 rfl rfl <| ok_dup2 (pc' := 91) i45_90 ⟨rfl, rfl⟩ rfl <| ?_
      have z65 : 0 ≤ t ((414 + (8 * x1)) + 6) ∧ t ((414 + (8 * x1)) + 6) ≤ 9 := V_o6 hV9 (i := x1) (by omega) (by omega)
      refine ok_iaload (v := (t ((414 + (8 * x1)) + 6))) (pc' := 92) i45_91 (ShState_k15 hSB) (by decide) (ShState_l15 hSB) (by omega) (rd_na (by omega) (RepS_15 hR9 (by omega) (by omega))) rfl <| ok_iconst (pc' := 93) i45_92 rfl <| ok_iadd (v := ((t ((414 + (8 * x1)) + 6)) + 1)) (pc' := 94) i45_93 rfl rfl <| ok_iastore (pc' := 95) i45_94 (ShState_k15 hSB) (ShState_l15 hSB) (by omega) rfl <| ok_aloadn (pc' := 96) i45_95 rfl rfl <| ok_getfr (r := B) (pc' := 99) i45_96 o45 gr8_15 (ShWorks_k0 hSW) (ShWorks_r1 hSW) rfl <| ok_getfr (r := (B + 23)) (pc' := 102) i45_99 o45 gr8_70 (ShState_k0 hSB) (ShState_r9 hSB) rfl <| ok_bipush (v := 6) (pc' := 104) i45_102 rfl rfl <| ?_
      refine ok_dup2 (pc' := 105) i45_104 ⟨rfl, rfl⟩ rfl <| ok_iaload (v := (t 12)) (pc' := 106) i45_105 (ShState_k23 hSB) (by decide) (ShState_l23 hSB) (by decide) (rd_na (by omega) (rd_na (by omega) (RepS_23_6 hR9))) rfl <| ok_iconst (pc' := 107) i45_106 rfl <| ok_iadd (v := ((t 12) + 1)) (pc' := 108) i45_107 rfl rfl <| ok_iastore (pc' := 109) i45_108 (ShState_k23 hSB) (ShState_l23 hSB) (by decide) rfl <| ok_aloadn (pc' := 110) i45_109 rfl rfl <| ok_getfr (r := B) (pc' := 113) i45_110 o45 gr8_15 (ShWorks_k0 hSW) (ShWorks_r1 hSW) rfl <| ok_getfr (r := (B + 23)) (pc' := 116) i45_113 o45 gr8_70 (ShState_k0 hSB) (ShState_r9 hSB) rfl <| ?_
      refine ok_iconst (pc' := 117) i45_116 rfl <| ok_dup2 (pc' := 118) i45_117 ⟨rfl, rfl⟩ rfl <| ok_iaload (v := (t 10)) (pc' := 119) i45_118 (ShState_k23 hSB) (by decide) (ShState_l23 hSB) (by decide) (rd_ni (by decide) (rd_na (by omega) (rd_na (by omega) (RepS_23_4 hR9)))) rfl <| ok_iloadn (pc' := 120) i45_119 rfl rfl <| ok_iconst (pc' := 121) i45_120 rfl <| ok_idivp (v := (Int.tdiv (t ((414 + (8 * x1)) + 2)) 2)) (pc' := 122) i45_121 (by omega) rfl rfl <| ok_iadd (v := ((t 10) + (Int.tdiv (t ((414 + (8 * x1)) + 2)) 2))) (pc' := 123) i45_122 rfl rfl <| ok_iastore (pc' := 124) i45_123 (ShState_k23 hSB) (ShState_l23 hSB) (by decide) rfl <| ?_
      refine ok_vret i45_124 rt45 <| kt_0 (pc' := 56) rfl <| ok_iinc (pc' := 59) (v := (x4 + 1)) (ls' := [aR W, aI x1, aI (s (414 + (8 * x1))), aI (min (s (542 + (s (414 + (8 * x1))))) (s ((414 + (8 * x1)) + 4))), aI (x4 + 1)]) i51_56 rfl rfl rfl rfl <| ok_goto (pc' := 45) i51_59 rfl <| ?_
      have e : (supC x1) x4 (t, c) = ((upI (upI (upI (upI t ((414 + (8 * x1)) + 4) ((t ((414 + (8 * x1)) + 4)) - 1)) ((414 + (8 * x1)) + 6) ((t ((414 + (8 * x1)) + 6)) + 1)) 12 ((t 12) + 1)) 10 ((t 10) + (Int.tdiv (t ((414 + (8 * x1)) + 2)) 2))), c) := by
        refine Prod.ext (funext fun k => ?_) rfl; simp only [supC, giveS, give2, upI]; grind (splits := 60)
      exact ih _ _ ⟨by rw [e]; exact (RL_w23 (i := 4) (RL_w23 (i := 6) (RL_w15 (i := x1) (RL_w13 (i := x1) (RL0 hR9) (V_lim hV9) (by omega) (by omega)) (V_lim hV9) (by omega) (by omega)) (V_lim hV9) (by omega) (by omega)) (V_lim hV9) (by omega) (by omega)).1, Wr.trans hW9 (Wr.up (Wr.up (Wr.up (Wr.up Wr.rfl (by omega)) (by omega)) (by omega)) (by omega)), V_supC hV9 (by omega) (by omega), by rw [e]; rw [← e]; show giveS t x1 _ = _; rw [give_ord (by omega), if_pos rfl]; omega, by rw [e]; rw [← e]; show giveS t x1 _ = _; rw [give_lo (by omega) (by omega)]; exact e_st, by rw [e]; rw [← e]; show giveS t x1 4 = _; rw [give_lo (by omega) (by omega)]; exact e_k4, by first | rw [e] | rfl⟩
    · refine ok_aloadn (pc' := 49) i45_48 rfl rfl <| ok_getfr (r := B) (pc' := 52) i45_49 o45 gr8_15 (ShWorks_k0 hSW) (ShWorks_r1 hSW) rfl <| ok_getfr (r := (B + 8)) (pc' := 55) i45_52 o45 gr8_90 (ShState_k0 hSB) (ShState_r5 hSB) rfl <| ok_iconst (pc' := 56) i45_55 rfl <| ok_aaload (r := (B + 14)) (pc' := 57) i45_56 (ShState_k8 hSB) (by decide) (ShState_l8 hSB) (by decide) (ShState_e8_5 hSB) rfl <| ok_iloadn (pc' := 58) i45_57 rfl rfl <| ok_dup2 (pc' := 59) i45_58 ⟨rfl, rfl⟩ rfl <| ?_
      have z66 : 0 ≤ t ((414 + (8 * x1)) + 5) ∧ t ((414 + (8 * x1)) + 5) ≤ 9 := V_o5 hV9 (i := x1) (by omega) (by omega)
      refine ok_iaload (v := (t ((414 + (8 * x1)) + 5))) (pc' := 60) i45_59 (ShState_k14 hSB) (by decide) (ShState_l14 hSB) (by omega) (rd_na (by omega) (RepS_14 hR9 (by omega) (by omega))) rfl <| ok_iconst (pc' := 61) i45_60 rfl <| ok_iadd (v := ((t ((414 + (8 * x1)) + 5)) + 1)) (pc' := 62) i45_61 rfl rfl <| ok_iastore (pc' := 63) i45_62 (ShState_k14 hSB) (ShState_l14 hSB) (by omega) rfl <| ok_aloadn (pc' := 64) i45_63 rfl rfl <| ok_getfr (r := B) (pc' := 67) i45_64 o45 gr8_15 (ShWorks_k0 hSW) (ShWorks_r1 hSW) rfl <| ok_getfr (r := (B + 23)) (pc' := 70) i45_67 o45 gr8_70 (ShState_k0 hSB) (ShState_r9 hSB) rfl <| ok_iconst (pc' := 71) i45_70 rfl <| ?_
      refine ok_dup2 (pc' := 72) i45_71 ⟨rfl, rfl⟩ rfl <| ok_iaload (v := (t 10)) (pc' := 73) i45_72 (ShState_k23 hSB) (by decide) (ShState_l23 hSB) (by decide) (rd_na (by omega) (rd_na (by omega) (RepS_23_4 hR9))) rfl <| ok_iloadn (pc' := 74) i45_73 rfl rfl <| ok_iadd (v := ((t 10) + (t ((414 + (8 * x1)) + 2)))) (pc' := 75) i45_74 rfl rfl <| ok_iastore (pc' := 76) i45_75 (ShState_k23 hSB) (ShState_l23 hSB) (by decide) rfl <| ok_goto (pc' := 124) i45_76 rfl <| ok_vret i45_124 rt45 <| kt_0 (pc' := 56) rfl <| ?_
      refine ok_iinc (pc' := 59) (v := (x4 + 1)) (ls' := [aR W, aI x1, aI (s (414 + (8 * x1))), aI (min (s (542 + (s (414 + (8 * x1))))) (s ((414 + (8 * x1)) + 4))), aI (x4 + 1)]) i51_56 rfl rfl rfl rfl <| ok_goto (pc' := 45) i51_59 rfl <| ?_
      have e : (supC x1) x4 (t, c) = ((upI (upI (upI t ((414 + (8 * x1)) + 4) ((t ((414 + (8 * x1)) + 4)) - 1)) ((414 + (8 * x1)) + 5) ((t ((414 + (8 * x1)) + 5)) + 1)) 10 ((t 10) + (t ((414 + (8 * x1)) + 2)))), c) := by
        refine Prod.ext (funext fun k => ?_) rfl; simp only [supC, giveS, give2, upI]; grind (splits := 60)
      exact ih _ _ ⟨by rw [e]; exact (RL_w23 (i := 4) (RL_w14 (i := x1) (RL_w13 (i := x1) (RL0 hR9) (V_lim hV9) (by omega) (by omega)) (V_lim hV9) (by omega) (by omega)) (V_lim hV9) (by omega) (by omega)).1, Wr.trans hW9 (Wr.up (Wr.up (Wr.up Wr.rfl (by omega)) (by omega)) (by omega)), V_supC hV9 (by omega) (by omega), by rw [e]; rw [← e]; show giveS t x1 _ = _; rw [give_ord (by omega), if_pos rfl]; omega, by rw [e]; rw [← e]; show giveS t x1 _ = _; rw [give_lo (by omega) (by omega)]; exact e_st, by rw [e]; rw [← e]; show giveS t x1 4 = _; rw [give_lo (by omega) (by omega)]; exact e_k4, by first | rw [e] | rfl⟩
  · rintro x4 ⟨t, c⟩ ls M9 g1 g2 ⟨hR9, hW9, hV9, e_lk, e_st, e_k4, rfl⟩
    dsimp only at *
    have g3 : x4 = (min (s (542 + (s (414 + (8 * x1))))) (s ((414 + (8 * x1)) + 4))) := by omega
    have hP9 : RepP M9 P q := RepP.fr hRP (fun a h1 h2 => hW9 a (by omega))
    have yt3 := V_3 hV9
    have yt4 := V_4 hV9
    refine ok_iload (pc' := 47) i51_45 rfl rfl <| ok_iloadn (pc' := 48) i51_47 rfl rfl <| ?_
    refine ok_cge (pc1 := 62) (pc2 := 51) i51_48 (by omega) rfl rfl (fun h1 => ?_) (fun h9 => by exfalso; omega)
    refine ok_aloadn (pc' := 63) i51_62 rfl rfl <| ok_getfr (r := B) (pc' := 66) i51_63 o51 gr8_15 (ShWorks_k0 hSW) (ShWorks_r1 hSW) rfl <| ok_getfr (r := (B + 17)) (pc' := 69) i51_66 o51 gr8_79 (ShState_k0 hSB) (ShState_r6 hSB) rfl <| ok_iloadn (pc' := 70) i51_69 rfl rfl <| ok_dup2 (pc' := 71) i51_70 ⟨rfl, rfl⟩ rfl <| ?_
    have z61 : 0 ≤ t (542 + (s (414 + (8 * x1)))) ∧ t (542 + (s (414 + (8 * x1)))) ≤ 1000000 := V_s hV9 (i := (s (414 + (8 * x1)))) (by omega) (by omega)
    refine ok_iaload (v := (t (542 + (s (414 + (8 * x1)))))) (pc' := 72) i51_71 (ShState_k17 hSB) (by decide) (ShState_l17 hSB) (by omega) (RepS_17 hR9 (by omega) (by omega)) rfl <| ok_iloadn (pc' := 73) i51_72 rfl rfl <| ok_isub (v := ((t (542 + (s (414 + (8 * x1))))) - (min (s (542 + (s (414 + (8 * x1))))) (s ((414 + (8 * x1)) + 4))))) (pc' := 74) i51_73 rfl rfl <| ok_iastore (pc' := 75) i51_74 (ShState_k17 hSB) (ShState_l17 hSB) (by omega) rfl <| ok_vret i51_75 rt51 <| ?_
    have e : supX s x1 (s (414 + (8 * x1))) = (upI t (542 + (s (414 + (8 * x1)))) ((t (542 + (s (414 + (8 * x1))))) - (min (s (542 + (s (414 + (8 * x1))))) (s ((414 + (8 * x1)) + 4))))) := by simp only [supX, supM, supC]; rw [g2]; rw [e_st]
    exact ⟨rfl, rfl, by rw [e]; exact (RL_w17 (i := (s (414 + (8 * x1)))) (RL0 hR9) (V_lim hV9) (by omega) (by omega)).1, Wr.trans hW9 (Wr.up Wr.rfl (by omega))⟩
