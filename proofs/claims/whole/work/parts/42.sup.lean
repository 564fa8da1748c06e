/-! SUPPLIES (by program, wip/gen) -/
theorem give_lo {s : Int → Int} {o k : Int} (ho : 0 ≤ o ∧ o < 16) (hk : k ≠ 10 ∧ k ≠ 12 ∧ (k < 414 ∨ 542 ≤ k)) : giveS s o k = s k := by
  unfold giveS give2
  simp only [upI]
  grind (splits := 40)
theorem give_ord {s : Int → Int} {o k : Int} (hk : 414 ≤ k ∧ k < 542) : giveS s o k = if k = (414 + (8 * o)) + 4 then s k - 1 else if k = (if s ((414 + (8 * o)) + 3) < s 0 then (414 + (8 * o)) + 6 else (414 + (8 * o)) + 5) then s k + 1 else s k := by
  unfold giveS give2
  simp only [upI]
  grind (splits := 40)
theorem V_give {b : Int} {q s : Int → Int} (hV : Val b q s) {o : Int} (ho : 0 ≤ o ∧ o < s 4) (hl : 1 ≤ s ((414 + (8 * o)) + 4)) : Val b q (giveS s o) := by
  have y3 := V_3 hV
  have y4 := V_4 hV
  have ho' : 0 ≤ o ∧ o < 16 := by omega
  have hk' : ∀ j : Int, j ≠ 10 ∧ j ≠ 12 ∧ (j < 414 ∨ 542 ≤ j) → giveS s o j = s j := fun j hj => give_lo ho' hj
  refine ⟨hV.1, by rw [hk' _ (by omega)]; exact hV.2.1, by rw [hk' _ (by omega)]; exact V_1 hV, by rw [hk' _ (by omega)]; exact V_2 hV, by rw [hk' _ (by omega)]; exact y3, by rw [hk' _ (by omega)]; exact y4, by rw [hk' _ (by omega)]; exact V_5 hV, ?_, ?_, ?_, V_q hV⟩
  · intro i h0 h1
    rw [hk' _ (by omega)] at h1
    have hi := hV.2.2.2.2.2.2.2.1 i h0 h1
    unfold RodV at hi ⊢
    rw [hk' _ (by omega), hk' _ (by omega), hk' _ (by omega), hk' _ (by omega)]
    exact hi
  · intro i h0 h1
    rw [hk' _ (by omega)] at h1
    have hi := hV.2.2.2.2.2.2.2.2.1 i h0 h1
    unfold OrdV at hi ⊢
    have c : ∀ k : Int, 414 ≤ k ∧ k < 542 → _ := fun k hk => give_ord (s := s) (o := o) hk
    rw [c (414 + 8 * i) (by omega), c (414 + 8 * i + 1) (by omega), c (414 + 8 * i + 2) (by omega), c (414 + 8 * i + 3) (by omega), c (414 + 8 * i + 4) (by omega), c (414 + 8 * i + 5) (by omega), c (414 + 8 * i + 6) (by omega), c (414 + 8 * i + 7) (by omega)]
    by_cases hio : i = o
    · subst hio
      grind (splits := 40)
    · grind (splits := 40)
  · intro l h0 h1
    rw [hk' _ (by omega)]
    exact hV.2.2.2.2.2.2.2.2.2.1 l h0 h1
theorem V_sto {b : Int} {q s : Int → Int} (hV : Val b q s) {l v : Int} (hl : 0 ≤ l ∧ l ≤ 200) (hv : 0 ≤ v ∧ v ≤ b) : Val b q (upI s (542 + l) v) := by
  have y3 := V_3 hV
  have y4 := V_4 hV
  have hk' : ∀ j : Int, j ≠ 542 + l → upI s (542 + l) v j = s j := fun j hj => upI_ne hj
  refine ⟨hV.1, by rw [hk' _ (by omega)]; exact hV.2.1, by rw [hk' _ (by omega)]; exact V_1 hV, by rw [hk' _ (by omega)]; exact V_2 hV, by rw [hk' _ (by omega)]; exact y3, by rw [hk' _ (by omega)]; exact y4, by rw [hk' _ (by omega)]; exact V_5 hV, ?_, ?_, ?_, V_q hV⟩
  · intro i h0 h1
    rw [hk' _ (by omega)] at h1
    have hi := hV.2.2.2.2.2.2.2.1 i h0 h1
    unfold RodV at hi ⊢
    rw [hk' _ (by omega), hk' _ (by omega), hk' _ (by omega), hk' _ (by omega)]
    exact hi
  · intro o h0 h1
    rw [hk' _ (by omega)] at h1
    have hi := hV.2.2.2.2.2.2.2.2.1 o h0 h1
    unfold OrdV at hi ⊢
    rw [hk' _ (by omega), hk' _ (by omega), hk' _ (by omega), hk' _ (by omega), hk' _ (by omega), hk' _ (by omega), hk' _ (by omega), hk' _ (by omega)]
    exact hi
  · intro j h0 h1
    unfold upI
    split
    · exact hv
    · exact hV.2.2.2.2.2.2.2.2.2.1 j h0 h1
def supC (o : Int) (_ : Int) (a : (Int → Int) × Int) : (Int → Int) × Int := (giveS a.1 o, a.2)
def supF (l o : Int) (_ : Int) (t : Int → Int) : Int → Int := giveS (upI t (542 + l) (t (542 + l) - 1)) o
def supM (s : Int → Int) (o l : Int) : Int := min (s (542 + l)) (s ((414 + (8 * o)) + 4))
def supS (s : Int → Int) (o l : Int) : Int → Int := itv (supF l o) s 0 (supM s o l).toNat
def supX (s : Int → Int) (o l : Int) : Int → Int := upI (itv (supC o) (s, 0) 0 (supM s o l).toNat).1 (542 + l) (s (542 + l) - supM s o l)
theorem sup_eq {s : Int → Int} {o l : Int} (ho : 0 ≤ o ∧ o < 16) (hl : 0 ≤ l ∧ l ≤ 200) (hn : 0 ≤ supM s o l) : supX s o l = supS s o l := by
  unfold supX supS
  have h := itv_congr (f := supC o) (f' := supF l o) (a0 := (s, 0)) (b0 := s) (lo := 0) (fun i a c => c = upI a.1 (542 + l) (s (542 + l) - i) ∧ a.1 (542 + l) = s (542 + l)) ⟨by funext k; unfold upI; split <;> grind, rfl⟩ (supM s o l).toNat (fun i a c h0 h1 h2 => by
    obtain ⟨rfl, h3⟩ := h2
    obtain ⟨t, n⟩ := a
    dsimp only at *
    refine ⟨?_, ?_⟩
    · funext k
      show giveS (upI (upI t (542 + l) (s (542 + l) - i)) (542 + l) (upI t (542 + l) (s (542 + l) - i) (542 + l) - 1)) o k = upI (giveS t o) (542 + l) (s (542 + l) - (i + 1)) k
      simp only [giveS, give2, upI]
      grind (splits := 60)
    · show giveS t o (542 + l) = _
      rw [give_lo ho (by omega)]
      exact h3)
  rw [h.1, Int.zero_add, Int.toNat_of_nonneg hn]
theorem V_supC {b : Int} {q t : Int → Int} {o c i : Int} (hV : Val b q t) (ho : 0 ≤ o ∧ o < t 4) (hl : 1 ≤ t ((414 + (8 * o)) + 4)) : Val b q (supC o i (t, c)).1 := V_give hV ho hl
theorem sup_aft {b : Int} {q s : Int → Int} (hV : Val b q s) {o l : Int} (ho : 0 ≤ o ∧ o < s 4) (hl : 0 ≤ l ∧ l ≤ 200) : ∀ k : Nat, (k : Int) ≤ supM s o l → Val b q (itv (supF l o) s 0 k) ∧ itv (supF l o) s 0 k (542 + l) = s (542 + l) - k ∧ itv (supF l o) s 0 k ((414 + (8 * o)) + 4) = s ((414 + (8 * o)) + 4) - k ∧ itv (supF l o) s 0 k 4 = s 4 ∧ itv (supF l o) s 0 k 3 = s 3 := by
  have y4 := V_4 hV
  have hb := V_b hV
  have hs := hV.2.2.2.2.2.2.2.2.2.1 l hl.1 hl.2
  intro k
  induction k with
  | zero => exact fun _ => ⟨hV, by show s _ = _; omega, by show s _ = _; omega, rfl, rfl⟩
  | succ k ih =>
    intro hk
    unfold supM at hk ih
    obtain ⟨h1, h2, h3, h4, h5⟩ := ih (by omega)
    show Val b q (supF l o (0 + (k : Int)) (itv (supF l o) s 0 k)) ∧ supF l o (0 + (k : Int)) (itv (supF l o) s 0 k) (542 + l) = _ ∧ supF l o (0 + (k : Int)) (itv (supF l o) s 0 k) ((414 + (8 * o)) + 4) = _ ∧ supF l o (0 + (k : Int)) (itv (supF l o) s 0 k) 4 = _ ∧ supF l o (0 + (k : Int)) (itv (supF l o) s 0 k) 3 = _
    generalize itv (supF l o) s 0 k = t at *
    unfold supF
    have hV2 := V_sto h1 hl (v := t (542 + l) - 1) (by omega)
    refine ⟨V_give hV2 (by rw [upI_ne (by omega)]; omega) (by rw [upI_ne (by omega)]; omega), ?_, ?_, ?_, ?_⟩
    · rw [give_lo (by omega) (by omega), upI_eq]; omega
    · rw [give_ord (by omega), if_pos rfl, upI_ne (by omega)]; omega
    · rw [give_lo (by omega) (by omega), upI_ne (by omega)]; exact h4
    · rw [give_lo (by omega) (by omega), upI_ne (by omega)]; exact h5
theorem o51 : am_oc 51 = 8 := by decide +kernel
theorem rt51 : am_rt 51 = none := by decide +kernel
theorem o272 : am_oc 272 = 9 := by decide +kernel
theorem rt272 : am_rt 272 = some .int := by decide +kernel
theorem rt182 : am_rt 182 = none := by decide +kernel
theorem t51 {g : AG} {M : AM} {W P B : Nat} {q s : Int → Int} {b : Int} {x1 : Int} (hSW : ShWorks g W P B) (hSP : ShPlan g P) (hSB : ShState g B) (hRP : RepP M P q) (hRB : RepS M B s) (hQ : ValQ q) (hV : Val b q s) (h1 : 0 ≤ x1 ∧ x1 < s 4) (h9 : P + 11 ≤ B ∨ B + 24 ≤ P) :
    Ok 1 51 0 [aR W, aI x1, aU, aU, aU] [] g M (Rt none g (fun M9 => RepS M9 B (supX s x1 (s (414 + (8 * x1)))) ∧ Wr B 24 M M9)) := by
  have yq0 : 0 ≤ q 0 ∧ q 0 ≤ 4 := Q_0 hQ
  have yq1 : 0 ≤ q 1 ∧ q 1 ≤ 6 := Q_1 hQ
  have ys3 : 0 ≤ s 3 ∧ s 3 ≤ 80 := V_3 hV
  have ys4 : 0 ≤ s 4 ∧ s 4 ≤ 16 := V_4 hV
  have t1 : 1 ≤ (s (414 + (8 * x1))) ∧ (s (414 + (8 * x1))) ≤ 200 := V_o0 hV h1.1 h1.2
  have t2 : 0 ≤ s (542 + (s (414 + (8 * x1)))) ∧ s (542 + (s (414 + (8 * x1)))) ≤ 1000000 := V_s hV (by omega) (by omega)
  have t3 : 0 ≤ s ((414 + (8 * x1)) + 4) ∧ s ((414 + (8 * x1)) + 4) ≤ 9 := V_o4 hV h1.1 h1.2
  have t4 : 0 ≤ (min (s (542 + (s (414 + (8 * x1))))) (s ((414 + (8 * x1)) + 4))) ∧ (min (s (542 + (s (414 + (8 * x1))))) (s ((414 + (8 * x1)) + 4))) ≤ s (542 + (s (414 + (8 * x1)))) ∧ (min (s (542 + (s (414 + (8 * x1))))) (s ((414 + (8 * x1)) + 4))) ≤ s ((414 + (8 * x1)) + 4) := by omega
  refine ok_iloadn (pc' := 1) i51_0 rfl rfl <| ok_iconst (pc' := 2) i51_1 rfl <| ?_
  refine ok_cne (pc1 := 6) (pc2 := 5) i51_2 (by omega) rfl rfl (fun h1 => ?_) (fun h9 => by exfalso; omega)
  refine ok_aloadn (pc' := 7) i51_6 rfl rfl <| ok_getfr (r := B) (pc' := 10) i51_7 o51 gr8_15 (ShWorks_k0 hSW) (ShWorks_r1 hSW) rfl <| ok_getfr (r := (B + 8)) (pc' := 13) i51_10 o51 gr8_90 (ShState_k0 hSB) (ShState_r5 hSB) rfl <| ok_iconst (pc' := 14) i51_13 rfl <| ok_aaload (r := (B + 9)) (pc' := 15) i51_14 (ShState_k8 hSB) (by decide) (ShState_l8 hSB) (by decide) (ShState_e8_0 hSB) rfl <| ok_iloadn (pc' := 16) i51_15 rfl rfl <| ?_
  have z1 : 1 ≤ s (414 + (8 * x1)) ∧ s (414 + (8 * x1)) ≤ 200 := V_o0 hV (i := x1) (by omega) (by omega)
  refine ok_iaload (v := (s (414 + (8 * x1)))) (pc' := 17) i51_16 (ShState_k9 hSB) (by decide) (ShState_l9 hSB) (by omega) (RepS_9 hRB (by omega) (by omega)) rfl <| ok_istoren (pc' := 18) (ls' := [aR W, aI x1, aI (s (414 + (8 * x1))), aU, aU]) i51_17 (bt rfl) rfl rfl <| ok_aloadn (pc' := 19) i51_18 rfl rfl <| ok_getfr (r := B) (pc' := 22) i51_19 o51 gr8_15 (ShWorks_k0 hSW) (ShWorks_r1 hSW) rfl <| ok_getfr (r := (B + 17)) (pc' := 25) i51_22 o51 gr8_79 (ShState_k0 hSB) (ShState_r6 hSB) rfl <| ok_iloadn (pc' := 26) i51_25 rfl rfl <| ?_
  have z2 : 0 ≤ s (542 + (s (414 + (8 * x1)))) ∧ s (542 + (s (414 + (8 * x1)))) ≤ 1000000 := V_s hV (i := (s (414 + (8 * x1)))) (by omega) (by omega)
  refine ok_iaload (v := (s (542 + (s (414 + (8 * x1)))))) (pc' := 27) i51_26 (ShState_k17 hSB) (by decide) (ShState_l17 hSB) (by omega) (RepS_17 hRB (by omega) (by omega)) rfl <| ok_aloadn (pc' := 28) i51_27 rfl rfl <| ok_getfr (r := B) (pc' := 31) i51_28 o51 gr8_15 (ShWorks_k0 hSW) (ShWorks_r1 hSW) rfl <| ok_getfr (r := (B + 8)) (pc' := 34) i51_31 o51 gr8_90 (ShState_k0 hSB) (ShState_r5 hSB) rfl <| ok_iconst (pc' := 35) i51_34 rfl <| ok_aaload (r := (B + 13)) (pc' := 36) i51_35 (ShState_k8 hSB) (by decide) (ShState_l8 hSB) (by decide) (ShState_e8_4 hSB) rfl <| ok_iloadn (pc' := 37) i51_36 rfl rfl <| ?_
  have z3 : 0 ≤ s ((414 + (8 * x1)) + 4) ∧ s ((414 + (8 * x1)) + 4) ≤ 9 := V_o4 hV (i := x1) (by omega) (by omega)
  refine ok_iaload (v := (s ((414 + (8 * x1)) + 4))) (pc' := 38) i51_37 (ShState_k13 hSB) (by decide) (ShState_l13 hSB) (by omega) (RepS_13 hRB (by omega) (by omega)) rfl <| ok_min (v := (min (s (542 + (s (414 + (8 * x1))))) (s ((414 + (8 * x1)) + 4)))) (pc' := 41) i51_38 o51 m8_67 (by omega) (bt rfl) rfl rfl <| ?_
  have z4 : (min (s (542 + (s (414 + (8 * x1))))) (s ((414 + (8 * x1)) + 4))) ≤ (s (542 + (s (414 + (8 * x1))))) ∧ (min (s (542 + (s (414 + (8 * x1))))) (s ((414 + (8 * x1)) + 4))) ≤ (s ((414 + (8 * x1)) + 4)) := by omega
  have z5 : 0 ≤ (min (s (542 + (s (414 + (8 * x1))))) (s ((414 + (8 * x1)) + 4))) := by omega
  refine ok_istoren (pc' := 42) (ls' := [aR W, aI x1, aI (s (414 + (8 * x1))), aI (min (s (542 + (s (414 + (8 * x1))))) (s ((414 + (8 * x1)) + 4))), aU]) i51_41 (bt rfl) rfl rfl <| ok_iconst (pc' := 43) i51_42 rfl <| ok_istore (pc' := 45) (ls' := [aR W, aI x1, aI (s (414 + (8 * x1))), aI (min (s (542 + (s (414 + (8 * x1))))) (s ((414 + (8 * x1)) + 4))), aI 0]) i51_43 (bt rfl) rfl rfl <| ?_
  refine ok_for (lo := 0) (n := (min (s (542 + (s (414 + (8 * x1))))) (s ((414 + (8 * x1)) + 4))).toNat) (f := (supC x1)) (a0 := (s, 0)) (fun x4 a ls M9 => RepS M9 B a.1 ∧ Wr B 24 M M9 ∧ Val (b) q a.1 ∧ (a.1 ((414 + (8 * x1)) + 4) = s ((414 + (8 * x1)) + 4) - x4) ∧ (a.1 (542 + (s (414 + (8 * x1)))) = s (542 + (s (414 + (8 * x1))))) ∧ (a.1 4 = s 4) ∧ ls = [aR W, aI x1, aI (s (414 + (8 * x1))), aI (min (s (542 + (s (414 + (8 * x1))))) (s ((414 + (8 * x1)) + 4))), aI x4]) ?_ ?_ _ _ ⟨hRB, Wr.rfl, hV, by show s _ = s _ - 0; omega, rfl, rfl, rfl⟩
  · rintro x4 ⟨t, c⟩ ls M9 g1 g2 ⟨hR9, hW9, hV9, e_lk, e_st, e_k4, rfl⟩ ih
    dsimp only at *
    have g3 : x4 < (min (s (542 + (s (414 + (8 * x1))))) (s ((414 + (8 * x1)) + 4))) := by omega
    have hP9 : RepP M9 P q := RepP.fr hRP (fun a h1 h2 => hW9 a (by omega))
    have yt3 := V_3 hV9
    have yt4 := V_4 hV9
    refine ok_iload (pc' := 47) i51_45 rfl rfl <| ok_iloadn (pc' := 48) i51_47 rfl rfl <| ?_
    refine ok_cge (pc1 := 62) (pc2 := 51) i51_48 (by omega) rfl rfl (fun h9 => by exfalso; omega) (fun h1 => ?_)
    refine ok_aloadn (pc' := 52) i51_51 rfl rfl <| ok_iloadn (pc' := 53) i51_52 rfl rfl <| ok_cc i51_53 rfl (cl_v o51 m8_82 na45 rfl rfl (bt rfl) (bt rfl) rfl (by rw [ShWorks_k0 hSW, o45])) ln45 (pd45 (aR W) (aI x1)) <| ok_aloadn (pc' := 1) i45_0 rfl rfl <| ok_getfr (r := B) (pc' := 4) i45_1 o45 gr8_15 (ShWorks_k0 hSW) (ShWorks_r1 hSW) rfl <| ok_getfr (r := (B + 8)) (pc' := 7) i45_4 o45 gr8_90 (ShState_k0 hSB) (ShState_r5 hSB) rfl <| ok_iconst (pc' := 8) i45_7 rfl <| ok_aaload (r := (B + 11)) (pc' := 9) i45_8 (ShState_k8 hSB) (by decide) (ShState_l8 hSB) (by decide) (ShState_e8_2 hSB) rfl <| ?_
    refine ok_iloadn (pc' := 10) i45_9 rfl rfl <| ?_
    have z61 : 0 ≤ t ((414 + (8 * x1)) + 2) ∧ t ((414 + (8 * x1)) + 2) ≤ 99 := V_o2 hV9 (i := x1) (by omega) (by omega)
    refine ok_iaload (v := (t ((414 + (8 * x1)) + 2))) (pc' := 11) i45_10 (ShState_k11 hSB) (by decide) (ShState_l11 hSB) (by omega) (RepS_11 hR9 (by omega) (by omega)) rfl <| ok_istoren (pc' := 12) (ls' := [aR W, aI x1, aI (t ((414 + (8 * x1)) + 2))]) i45_11 (bt rfl) rfl rfl <| ok_aloadn (pc' := 13) i45_12 rfl rfl <| ok_getfr (r := B) (pc' := 16) i45_13 o45 gr8_15 (ShWorks_k0 hSW) (ShWorks_r1 hSW) rfl <| ok_getfr (r := (B + 8)) (pc' := 19) i45_16 o45 gr8_90 (ShState_k0 hSB) (ShState_r5 hSB) rfl <| ok_iconst (pc' := 20) i45_19 rfl <| ok_aaload (r := (B + 13)) (pc' := 21) i45_20 (ShState_k8 hSB) (by decide) (ShState_l8 hSB) (by decide) (ShState_e8_4 hSB) rfl <| ok_iloadn (pc' := 22) i45_21 rfl rfl <| ?_
    refine ok_dup2 (pc' := 23) i45_22 ⟨rfl, rfl⟩ rfl <| ?_
    have z62 : 0 ≤ t ((414 + (8 * x1)) + 4) ∧ t ((414 + (8 * x1)) + 4) ≤ 9 := V_o4 hV9 (i := x1) (by omega) (by omega)
    refine ok_iaload (v := (t ((414 + (8 * x1)) + 4))) (pc' := 24) i45_23 (ShState_k13 hSB) (by decide) (ShState_l13 hSB) (by omega) (RepS_13 hR9 (by omega) (by omega)) rfl <| ok_iconst (pc' := 25) i45_24 rfl <| ok_isub (v := ((t ((414 + (8 * x1)) + 4)) - 1)) (pc' := 26) i45_25 rfl rfl <| ok_iastore (pc' := 27) i45_26 (ShState_k13 hSB) (ShState_l13 hSB) (by omega) rfl <| ok_aloadn (pc' := 28) i45_27 rfl rfl <| ok_getfr (r := B) (pc' := 31) i45_28 o45 gr8_15 (ShWorks_k0 hSW) (ShWorks_r1 hSW) rfl <| ?_
    have z63 : 0 ≤ t 0 ∧ t 0 ≤ 1000000 := V_0 hV9
    refine ok_getfi (v := (t 0)) (pc' := 34) i45_31 o45 gi8_93 (ShState_k0 hSB) (rd_na (by omega) (RepS_f0 hR9)) rfl <| ok_aloadn (pc' := 35) i45_34 rfl rfl <| ok_getfr (r := B) (pc' := 38) i45_35 o45 gr8_15 (ShWorks_k0 hSW) (ShWorks_r1 hSW) rfl <| ok_getfr (r := (B + 8)) (pc' := 41) i45_38 o45 gr8_90 (ShState_k0 hSB) (ShState_r5 hSB) rfl <| ok_iconst (pc' := 42) i45_41 rfl <| ok_aaload (r := (B + 12)) (pc' := 43) i45_42 (ShState_k8 hSB) (by decide) (ShState_l8 hSB) (by decide) (ShState_e8_3 hSB) rfl <| ok_iloadn (pc' := 44) i45_43 rfl rfl <| ?_
    have z64 : 0 ≤ t ((414 + (8 * x1)) + 3) ∧ t ((414 + (8 * x1)) + 3) ≤ 999 := V_o3 hV9 (i := x1) (by omega) (by omega)
    refine ok_iaload (v := (t ((414 + (8 * x1)) + 3))) (pc' := 45) i45_44 (ShState_k12 hSB) (by decide) (ShState_l12 hSB) (by omega) (rd_na (by omega) (RepS_12 hR9 (by omega) (by omega))) rfl <| ?_
    refine ok_cgt (pc1 := 79) (pc2 := 48) i45_45 (by omega) rfl rfl (fun h2 => ?_) (fun h2 => ?_)
    · refine ok_aloadn (pc' := 80) i45_79 rfl rfl <| ok_getfr (r := B) (pc' := 83) i45_80 o45 gr8_15 (ShWorks_k0 hSW) (ShWorks_r1 hSW) rfl <| ok_getfr (r := (B + 8)) (pc' := 86) i45_83 o45 gr8_90 (ShState_k0 hSB) (ShState_r5 hSB) rfl <| ok_bipush (v := 6) (pc' := 88) i45_86 rfl rfl <| ok_aaload (r := (B + 15)) (pc' := 89) i45_88 (ShState_k8 hSB) (by decide) (ShState_l8 hSB) (by decide) (ShState_e8_6 hSB) rfl <| ok_iloadn (pc' := 90) i45_89 rfl rfl <| ok_dup2 (pc' := 91) i45_90 ⟨rfl, rfl⟩ rfl <| ?_
      have z65 : 0 ≤ t ((414 + (8 * x1)) + 6) ∧ t ((414 + (8 * x1)) + 6) ≤ 9 := V_o6 hV9 (i := x1) (by omega) (by omega)
      refine ok_iaload (v := (t ((414 + (8 * x1)) + 6))) (pc' := 92) i45_91 (ShState_k15 hSB) (by decide) (ShState_l15 hSB) (by omega) (rd_na (by omega) (RepS_15 hR9 (by omega) (by omega))) rfl <| ok_iconst (pc' := 93) i45_92 rfl <| ok_iadd (v := ((t ((414 + (8 * x1)) + 6)) + 1)) (pc' := 94) i45_93 rfl rfl <| ok_iastore (pc' := 95) i45_94 (ShState_k15 hSB) (ShState_l15 hSB) (by omega) rfl <| ok_aloadn (pc' := 96) i45_95 rfl rfl <| ok_getfr (r := B) (pc' := 99) i45_96 o45 gr8_15 (ShWorks_k0 hSW) (ShWorks_r1 hSW) rfl <| ok_getfr (r := (B + 23)) (pc' := 102) i45_99 o45 gr8_70 (ShState_k0 hSB) (ShState_r9 hSB) rfl <| ok_bipush (v := 6) (pc' := 104) i45_102 rfl rfl <| ?_
      refine ok_dup2 (pc' := 105) i45_104 ⟨rfl, rfl⟩ rfl <| ok_iaload (v := (t 12)) (pc' := 106) i45_105 (ShState_k23 hSB) (by decide) (ShState_l23 hSB) (by decide) (rd_na (by omega) (rd_na (by omega) (RepS_23_6 hR9))) rfl <| ok_iconst (pc' := 107) i45_106 rfl <| ok_iadd (v := ((t 12) + 1)) (pc' := 108) i45_107 rfl rfl <| ok_iastore (pc' := 109) i45_108 (ShState_k23 hSB) (ShState_l23 hSB) (by decide) rfl <| ok_aloadn (pc' := 110) i45_109 rfl rfl <| ok_getfr (r := B) (pc' := 113) i45_110 o45 gr8_15 (ShWorks_k0 hSW) (ShWorks_r1 hSW) rfl <| ok_getfr (r := (B + 23)) (pc' := 116) i45_113 o45 gr8_70 (ShState_k0 hSB) (ShState_r9 hSB) rfl <| ?_
      refine ok_iconst (pc' := 117) i45_116 rfl <| ok_dup2 (pc' := 118) i45_117 ⟨rfl, rfl⟩ rfl <| ok_iaload (v := (t 10)) (pc' := 119) i45_118 (ShState_k23 hSB) (by decide) (ShState_l23 hSB) (by decide) (rd_ni (by decide) (rd_na (by omega) (rd_na (by omega) (RepS_23_4 hR9)))) rfl <| ok_iloadn (pc' := 120) i45_119 rfl rfl <| ok_iconst (pc' := 121) i45_120 rfl <| ok_idivp (v := (Int.tdiv (t ((414 + (8 * x1)) + 2)) 2)) (pc' := 122) i45_121 (by omega) rfl rfl <| ok_iadd (v := ((t 10) + (Int.tdiv (t ((414 + (8 * x1)) + 2)) 2))) (pc' := 123) i45_122 rfl rfl <| ok_iastore (pc' := 124) i45_123 (ShState_k23 hSB) (ShState_l23 hSB) (by decide) rfl <| ?_
      refine ok_vret i45_124 rt45 <| kt_0 (pc' := 56) rfl <| ok_iinc (pc' := 59) (v := (x4 + 1)) (ls' := [aR W, aI x1, aI (s (414 + (8 * x1))), aI (min (s (542 + (s (414 + (8 * x1))))) (s ((414 + (8 * x1)) + 4))), aI (x4 + 1)]) i51_56 rfl rfl rfl rfl <| ok_goto (pc' := 45) i51_59 rfl <| ?_
      have e : (supC x1) x4 (t, c) = ((upI (upI (upI (upI t ((414 + (8 * x1)) + 4) ((t ((414 + (8 * x1)) + 4)) - 1)) ((414 + (8 * x1)) + 6) ((t ((414 + (8 * x1)) + 6)) + 1)) 12 ((t 12) + 1)) 10 ((t 10) + (Int.tdiv (t ((414 + (8 * x1)) + 2)) 2))), c) := by
        refine Prod.ext (funext fun k => ?_) rfl; simp only [supC, giveS, give2, upI]; grind (splits := 60)
      exact ih _ _ ⟨by rw [e]; exact (RL_w23 (i := 4) (RL_w23 (i := 6) (RL_w15 (i := x1) (RL_w13 (i := x1) (RL0 hR9) (V_lim hV9) (by omega) (by omega)) (V_lim hV9) (by omega) (by omega)) (V_lim hV9) (by omega) (by omega)) (V_lim hV9) (by omega) (by omega)).1, Wr.trans hW9 (Wr.up (Wr.up (Wr.up (Wr.up Wr.rfl (by omega)) (by omega)) (by omega)) (by omega)), V_supC hV9 (by omega) (by omega), by rw [e]; rw [← e]; show giveS t x1 _ = _; rw [give_ord (by omega), if_pos rfl]; omega, by rw [e]; rw [← e]; show giveS t x1 _ = _; rw [give_lo (by omega) (by omega)]; exact e_st, by rw [e]; rw [← e]; show giveS t x1 4 = _; rw [give_lo (by omega) (by omega)]; exact e_k4, by first | rw [e] | rfl⟩
    · refine ok_aloadn (pc' := 49) i45_48 rfl rfl <| ok_getfr (r := B) (pc' := 52) i45_49 o45 gr8_15 (ShWorks_k0 hSW) (ShWorks_r1 hSW) rfl <| ok_getfr (r := (B + 8)) (pc' := 55) i45_52 o45 gr8_90 (ShState_k0 hSB) (ShState_r5 hSB) rfl <| ok_iconst (pc' := 56) i45_55 rfl <| ok_aaload (r := (B + 14)) (pc' := 57) i45_56 (ShState_k8 hSB) (by decide) (ShState_l8 hSB) (by decide) (ShState_e8_5 hSB) rfl <| ok_iloadn (pc' := 58) i45_57 rfl rfl <| ok_dup2 (pc' := 59) i45_58 ⟨rfl, rfl⟩ rfl <| ?_
      have z66 : 0 ≤ t ((414 + (8 * x1)) + 5) ∧ t ((414 + (8 * x1)) + 5) ≤ 9 := V_o5 hV9 (i := x1) (by omega) (by omega)
      refine ok_iaload (v := (t ((414 + (8 * x1)) + 5))) (pc' := 60) i45_59 (ShState_k14 hSB) (by decide) (ShState_l14 hSB) (by omega) (rd_na (by omega) (RepS_14 hR9 (by omega) (by omega))) rfl <| ok_iconst (pc' := 61) i45_60 rfl <| ok_iadd (v := ((t ((414 + (8 * x1)) + 5)) + 1)) (pc' := 62) i45_61 rfl rfl <| ok_iastore (pc' := 63) i45_62 (ShState_k14 hSB) (ShState_l14 hSB) (by omega) rfl <| ok_aloadn (pc' := 64) i45_63 rfl rfl <| ok_getfr (r := B) (pc' := 67) i45_64 o45 gr8_15 (ShWorks_k0 hSW) (ShWorks_r1 hSW) rfl <| ok_getfr (r := (B + 23)) (pc' := 70) i45_67 o45 gr8_70 (ShState_k0 hSB) (ShState_r9 hSB) rfl <| ok_iconst (pc' := 71) i45_70 rfl <| ?_
      refine ok_dup2 (pc' := 72) i45_71 ⟨rfl, rfl⟩ rfl <| ok_iaload (v := (t 10)) (pc' := 73) i45_72 (ShState_k23 hSB) (by decide) (ShState_l23 hSB) (by decide) (rd_na (by omega) (rd_na (by omega) (RepS_23_4 hR9))) rfl <| ok_iloadn (pc' := 74) i45_73 rfl rfl <| ok_iadd (v := ((t 10) + (t ((414 + (8 * x1)) + 2)))) (pc' := 75) i45_74 rfl rfl <| ok_iastore (pc' := 76) i45_75 (ShState_k23 hSB) (ShState_l23 hSB) (by decide) rfl <| ok_goto (pc' := 124) i45_76 rfl <| ok_vret i45_124 rt45 <| kt_0 (pc' := 56) rfl <| ?_
      refine ok_iinc (pc' := 59) (v := (x4 + 1)) (ls' := [aR W, aI x1, aI (s (414 + (8 * x1))), aI (min (s (542 + (s (414 + (8 * x1))))) (s ((414 + (8 * x1)) + 4))), aI (x4 + 1)]) i51_56 rfl rfl rfl rfl <| ok_goto (pc' := 45) i51_59 rfl <| ?_
      have e : (supC x1) x4 (t, c) = ((upI (upI (upI t ((414 + (8 * x1)) + 4) ((t ((414 + (8 * x1)) + 4)) - 1)) ((414 + (8 * x1)) + 5) ((t ((414 + (8 * x1)) + 5)) + 1)) 10 ((t 10) + (t ((414 + (8 * x1)) + 2)))), c) := by
        refine Prod.ext (funext fun k => ?_) rfl; simp only [supC, giveS, give2, upI]; grind (splits := 60)
      exact ih _ _ ⟨by rw [e]; exact (RL_w23 (i := 4) (RL_w14 (i := x1) (RL_w13 (i := x1) (RL0 hR9) (V_lim hV9) (by omega) (by omega)) (V_lim hV9) (by omega) (by omega)) (V_lim hV9) (by omega) (by omega)).1, Wr.trans hW9 (Wr.up (Wr.up (Wr.up Wr.rfl (by omega)) (by omega)) (by omega)), V_supC hV9 (by omega) (by omega), by rw [e]; rw [← e]; show giveS t x1 _ = _; rw [give_ord (by omega), if_pos rfl]; omega, by rw [e]; rw [← e]; show giveS t x1 _ = _; rw [give_lo (by omega) (by omega)]; exact e_st, by rw [e]; rw [← e]; show giveS t x1 4 = _; rw [give_lo (by omega) (by omega)]; exact e_k4, by first | rw [e] | rfl⟩
  · rintro x4 ⟨t, c⟩ ls M9 g1 g2 ⟨hR9, hW9, hV9, e_lk, e_st, e_k4, rfl⟩
    dsimp only at *
    have g3 : x4 = (min (s (542 + (s (414 + (8 * x1))))) (s ((414 + (8 * x1)) + 4))) := by omega
    have hP9 : RepP M9 P q := RepP.fr hRP (fun a h1 h2 => hW9 a (by omega))
    have yt3 := V_3 hV9
    have yt4 := V_4 hV9
    refine ok_iload (pc' := 47) i51_45 rfl rfl <| ok_iloadn (pc' := 48) i51_47 rfl rfl <| ?_
    refine ok_cge (pc1 := 62) (pc2 := 51) i51_48 (by omega) rfl rfl (fun h1 => ?_) (fun h9 => by exfalso; omega)
    refine ok_aloadn (pc' := 63) i51_62 rfl rfl <| ok_getfr (r := B) (pc' := 66) i51_63 o51 gr8_15 (ShWorks_k0 hSW) (ShWorks_r1 hSW) rfl <| ok_getfr (r := (B + 17)) (pc' := 69) i51_66 o51 gr8_79 (ShState_k0 hSB) (ShState_r6 hSB) rfl <| ok_iloadn (pc' := 70) i51_69 rfl rfl <| ok_dup2 (pc' := 71) i51_70 ⟨rfl, rfl⟩ rfl <| ?_
    have z61 : 0 ≤ t (542 + (s (414 + (8 * x1)))) ∧ t (542 + (s (414 + (8 * x1)))) ≤ 1000000 := V_s hV9 (i := (s (414 + (8 * x1)))) (by omega) (by omega)
    refine ok_iaload (v := (t (542 + (s (414 + (8 * x1)))))) (pc' := 72) i51_71 (ShState_k17 hSB) (by decide) (ShState_l17 hSB) (by omega) (RepS_17 hR9 (by omega) (by omega)) rfl <| ok_iloadn (pc' := 73) i51_72 rfl rfl <| ok_isub (v := ((t (542 + (s (414 + (8 * x1))))) - (min (s (542 + (s (414 + (8 * x1))))) (s ((414 + (8 * x1)) + 4))))) (pc' := 74) i51_73 rfl rfl <| ok_iastore (pc' := 75) i51_74 (ShState_k17 hSB) (ShState_l17 hSB) (by omega) rfl <| ok_vret i51_75 rt51 <| ?_
    have e : supX s x1 (s (414 + (8 * x1))) = (upI t (542 + (s (414 + (8 * x1)))) ((t (542 + (s (414 + (8 * x1))))) - (min (s (542 + (s (414 + (8 * x1))))) (s ((414 + (8 * x1)) + 4))))) := by simp only [supX, supM, supC]; rw [g2]; rw [e_st]
    exact ⟨rfl, rfl, by rw [e]; exact (RL_w17 (i := (s (414 + (8 * x1)))) (RL0 hR9) (V_lim hV9) (by omega) (by omega)).1, Wr.trans hW9 (Wr.up Wr.rfl (by omega))⟩
theorem w272 {d : Nat} {g : AG} {M : AM} {O : Nat} {s q : Int → Int} {b : Int} {x1 x2 x3 x4 x5 x6 : Int} (hSO : ShModel g O) (hRO : RepO M O q s) (hV : Val b q s) (hQ : ValQ q) (hx1 : 0 ≤ x1 ∧ x1 ≤ 200) (h6 : 0 ≤ x6 ∧ x6 < s 4) :
    Ok (d + 2) 272 112 [aR O, aI x1, aI x2, aI x3, aI x4, aI x5, aI x6] [] g M (Rt (some (aI x6)) g (fun M9 => M9 = upM M (O + 5) (supS s x6 x1))) := by
  refine ok_while (σ := Int → Int) (fun a ls M9 => ∃ x : Int, (0 ≤ x ∧ x ≤ (supM s x6 x1)) ∧ itv (supF x1 x6) s 0 x.toNat = a ∧ M9 = upM M (O + 5) a ∧ Val b q a ∧ a (542 + x1) = s (542 + x1) - x ∧ a ((414 + (8 * x6)) + 4) = s ((414 + (8 * x6)) + 4) - x ∧ a 4 = s 4 ∧ ls = [aR O, aI x1, aI x2, aI x3, aI x4, aI x5, aI x6]) (fun a => (a (542 + x1)).toNat) ?_ s _ M ⟨0, by have := V_s hV hx1.1 hx1.2; have := V_o4 hV h6.1 h6.2; unfold supM; omega, rfl, by rw [← hRO.1]; exact upM_self.symm, hV, by omega, by omega, rfl, rfl⟩
  rintro a ls M9 ⟨x, hi, e, hM, hV9, ea, el, ek, rfl⟩ ih
  have hR9 : RepO M9 O q a := by rw [hM]; exact RepO.upm hRO
  have ya3 := V_3 hV9
  have ya4 := V_4 hV9
  have ys := V_s hV9 hx1.1 hx1.2
  have hsm : supM s x6 x1 = min (s (542 + x1)) (s ((414 + (8 * x6)) + 4)) := rfl
  refine ok_aloadn (pc' := 113) i272_112 rfl rfl <| ok_getfr (r := (O + 5)) (pc' := 116) i272_113 o272 gr9_22 (ShModel_k0 hSO) (ShModel_r8 hSO) rfl <| ok_sipush (v := 542) (pc' := 119) i272_116 rfl rfl <| ok_iloadn (pc' := 120) i272_119 rfl rfl <| ok_iadd (v := (542 + x1)) (pc' := 121) i272_120 rfl rfl <| ok_iaload (v := (a (542 + x1))) (pc' := 122) i272_121 (ShModel_k5 hSO) (by decide) (ShModel_l5 hSO) (by omega) (RepO_s hR9) rfl <| ?_
  refine ok_zle (pc1 := 157) (pc2 := 125) i272_122 (by omega) rfl rfl (fun h1 => ?_) (fun h1 => ?_)
  · refine ok_iload (pc' := 159) i272_157 rfl rfl <| ok_ireti i272_159 rt272 <| ?_
    have ex : x = (supM s x6 x1) := by unfold supM; omega
    have e3 : supS s x6 x1 = a := by unfold supS; rw [← ex]; exact e
    exact ⟨rfl, rfl, by rw [e3]; exact hM⟩
  · refine ok_aloadn (pc' := 126) i272_125 rfl rfl <| ok_iload (pc' := 128) i272_126 rfl rfl <| ok_cc i272_128 rfl (cl_v o272 m9_232 na190 rfl rfl (bt rfl) (bt rfl) rfl (by rw [ShModel_k0 hSO, o190])) ln190 (pd190 (aR O) (aI x6)) <| ok_aloadn (pc' := 1) i190_0 rfl rfl <| ok_iloadn (pc' := 2) i190_1 rfl rfl <| ok_iconst (pc' := 3) i190_2 rfl <| ok_cc i190_3 rfl (cl_v o190 m9_226 na191 rfl rfl (bt rfl) (bt rfl) rfl (by rw [ShModel_k0 hSO, o191])) ln191 (pd191 (aR O) (aI x6) (aI 4)) <| ok_aloadn (pc' := 1) i191_0 rfl rfl <| ?_
    refine ok_getfr (r := (O + 5)) (pc' := 4) i191_1 o191 gr9_22 (ShModel_k0 hSO) (ShModel_r8 hSO) rfl <| ok_sipush (v := 414) (pc' := 7) i191_4 rfl rfl <| ok_bipush (v := 8) (pc' := 9) i191_7 rfl rfl <| ok_iloadn (pc' := 10) i191_9 rfl rfl <| ok_imul (v := (8 * x6)) (pc' := 11) i191_10 rfl rfl <| ok_iadd (v := (414 + (8 * x6))) (pc' := 12) i191_11 rfl rfl <| ok_iloadn (pc' := 13) i191_12 rfl rfl <| ok_iadd (v := ((414 + (8 * x6)) + 4)) (pc' := 14) i191_13 rfl rfl <| ?_
    have z61 : 0 ≤ a ((414 + (8 * x6)) + 4) ∧ a ((414 + (8 * x6)) + 4) ≤ 9 := V_o4 hV9 (i := x6) (by omega) (by omega)
    refine ok_iaload (v := (a ((414 + (8 * x6)) + 4))) (pc' := 15) i191_14 (ShModel_k5 hSO) (by decide) (ShModel_l5 hSO) (by omega) (RepO_s hR9) rfl <| ok_ireti i191_15 rt191 <| kt_v (pc' := 6) rfl <| ?_
    refine ok_zle (pc1 := 13) (pc2 := 9) i190_6 (by omega) rfl rfl (fun h2 => ?_) (fun h2 => ?_)
    · refine ok_iconst (pc' := 14) i190_13 rfl <| ok_iretz i190_14 rt190 (by decide) <| kt_v (pc' := 131) rfl <| ok_kz1 (pc1 := 157) (pc2 := 134) i272_131 (by decide) rfl rfl <| ok_iload (pc' := 159) i272_157 rfl rfl <| ok_ireti i272_159 rt272 <| ?_
      have ex : x = (supM s x6 x1) := by unfold supM; omega
      have e3 : supS s x6 x1 = a := by unfold supS; rw [← ex]; exact e
      exact ⟨rfl, rfl, by rw [e3]; exact hM⟩
    · refine ok_iconst (pc' := 10) i190_9 rfl <| ok_goto (pc' := 14) i190_10 rfl <| ok_iretz i190_14 rt190 (by decide) <| kt_v (pc' := 131) rfl <| ok_kz0 (pc1 := 157) (pc2 := 134) i272_131 (by decide) rfl rfl <| ok_aloadn (pc' := 135) i272_134 rfl rfl <| ok_getfr (r := (O + 5)) (pc' := 138) i272_135 o272 gr9_22 (ShModel_k0 hSO) (ShModel_r8 hSO) rfl <| ok_sipush (v := 542) (pc' := 141) i272_138 rfl rfl <| ?_
      refine ok_iloadn (pc' := 142) i272_141 rfl rfl <| ok_iadd (v := (542 + x1)) (pc' := 143) i272_142 rfl rfl <| ok_dup2 (pc' := 144) i272_143 ⟨rfl, rfl⟩ rfl <| ok_iaload (v := (a (542 + x1))) (pc' := 145) i272_144 (ShModel_k5 hSO) (by decide) (ShModel_l5 hSO) (by omega) (RepO_s hR9) rfl <| ok_iconst (pc' := 146) i272_145 rfl <| ok_isub (v := ((a (542 + x1)) - 1)) (pc' := 147) i272_146 rfl rfl <| ok_iastore (pc' := 148) i272_147 (ShModel_k5 hSO) (ShModel_l5 hSO) (by omega) rfl <| ok_aloadn (pc' := 149) i272_148 rfl rfl <| ?_
      refine ok_iload (pc' := 151) i272_149 rfl rfl <| ok_cc i272_151 rfl (cl_v o272 m9_296 na240 rfl rfl (bt rfl) (bt rfl) rfl (by rw [ShModel_k0 hSO, o240])) ln240 (pd240 (aR O) (aI x6)) <| ok_aloadn (pc' := 1) i240_0 rfl rfl <| ok_getfr (r := (O + 5)) (pc' := 4) i240_1 o240 gr9_22 (ShModel_k0 hSO) (ShModel_r8 hSO) rfl <| ok_iconst (pc' := 5) i240_4 rfl <| ?_
      have z62 : 0 ≤ a 0 ∧ a 0 ≤ 1000000 := V_0 hV9
      refine ok_iaload (v := (a 0)) (pc' := 6) i240_5 (ShModel_k5 hSO) (by decide) (ShModel_l5 hSO) (by decide) (rd_ni (by omega) (RepO_s hR9)) rfl <| ok_aloadn (pc' := 7) i240_6 rfl rfl <| ok_iloadn (pc' := 8) i240_7 rfl rfl <| ok_iconst (pc' := 9) i240_8 rfl <| ok_cc i240_9 rfl (cl_v o240 m9_226 na191 rfl rfl (bt rfl) (bt rfl) rfl (by rw [ShModel_k0 hSO, o191])) ln191 (pd191 (aR O) (aI x6) (aI 3)) <| ok_aloadn (pc' := 1) i191_0 rfl rfl <| ok_getfr (r := (O + 5)) (pc' := 4) i191_1 o191 gr9_22 (ShModel_k0 hSO) (ShModel_r8 hSO) rfl <| ok_sipush (v := 414) (pc' := 7) i191_4 rfl rfl <| ?_
      refine ok_bipush (v := 8) (pc' := 9) i191_7 rfl rfl <| ok_iloadn (pc' := 10) i191_9 rfl rfl <| ok_imul (v := (8 * x6)) (pc' := 11) i191_10 rfl rfl <| ok_iadd (v := (414 + (8 * x6))) (pc' := 12) i191_11 rfl rfl <| ok_iloadn (pc' := 13) i191_12 rfl rfl <| ok_iadd (v := ((414 + (8 * x6)) + 3)) (pc' := 14) i191_13 rfl rfl <| ?_
      have z63 : 0 ≤ a ((414 + (8 * x6)) + 3) ∧ a ((414 + (8 * x6)) + 3) ≤ 999 := V_o3 hV9 (i := x6) (by omega) (by omega)
      refine ok_iaload (v := (a ((414 + (8 * x6)) + 3))) (pc' := 15) i191_14 (ShModel_k5 hSO) (by decide) (ShModel_l5 hSO) (by omega) (rd_ni (by omega) (RepO_s hR9)) rfl <| ok_ireti i191_15 rt191 <| kt_v (pc' := 12) rfl <| ?_
      refine ok_cle (pc1 := 19) (pc2 := 15) i240_12 (by omega) rfl rfl (fun h3 => ?_) (fun h3 => ?_)
      · refine ok_iconst (pc' := 20) i240_19 rfl <| ok_istoren (pc' := 21) (ls' := [aR O, aI x6, aI 0]) i240_20 (bt rfl) rfl rfl <| ok_aloadn (pc' := 22) i240_21 rfl rfl <| ok_getfr (r := (O + 5)) (pc' := 25) i240_22 o240 gr9_22 (ShModel_k0 hSO) (ShModel_r8 hSO) rfl <| ok_sipush (v := 414) (pc' := 28) i240_25 rfl rfl <| ok_bipush (v := 8) (pc' := 30) i240_28 rfl rfl <| ok_iloadn (pc' := 31) i240_30 rfl rfl <| ok_imul (v := (8 * x6)) (pc' := 32) i240_31 rfl rfl <| ?_
        refine ok_iadd (v := (414 + (8 * x6))) (pc' := 33) i240_32 rfl rfl <| ok_iconst (pc' := 34) i240_33 rfl <| ok_iadd (v := ((414 + (8 * x6)) + 4)) (pc' := 35) i240_34 rfl rfl <| ok_dup2 (pc' := 36) i240_35 ⟨rfl, rfl⟩ rfl <| ok_iaload (v := (a ((414 + (8 * x6)) + 4))) (pc' := 37) i240_36 (ShModel_k5 hSO) (by decide) (ShModel_l5 hSO) (by omega) (rd_ni (by omega) (RepO_s hR9)) rfl <| ok_iconst (pc' := 38) i240_37 rfl <| ok_isub (v := ((a ((414 + (8 * x6)) + 4)) - 1)) (pc' := 39) i240_38 rfl rfl <| ok_iastore (pc' := 40) i240_39 (ShModel_k5 hSO) (ShModel_l5 hSO) (by omega) rfl <| ?_
        refine ok_aloadn (pc' := 41) i240_40 rfl rfl <| ok_getfr (r := (O + 5)) (pc' := 44) i240_41 o240 gr9_22 (ShModel_k0 hSO) (ShModel_r8 hSO) rfl <| ok_sipush (v := 414) (pc' := 47) i240_44 rfl rfl <| ok_bipush (v := 8) (pc' := 49) i240_47 rfl rfl <| ok_iloadn (pc' := 50) i240_49 rfl rfl <| ok_imul (v := (8 * x6)) (pc' := 51) i240_50 rfl rfl <| ok_iadd (v := (414 + (8 * x6))) (pc' := 52) i240_51 rfl rfl <| ok_iloadn (pc' := 53) i240_52 rfl rfl <| ?_
        refine ok_kz1 (pc1 := 61) (pc2 := 56) i240_53 (by decide) rfl rfl <| ok_iconst (pc' := 62) i240_61 rfl <| ok_iadd (v := ((414 + (8 * x6)) + 5)) (pc' := 63) i240_62 rfl rfl <| ok_dup2 (pc' := 64) i240_63 ⟨rfl, rfl⟩ rfl <| ?_
        have z64 : 0 ≤ a ((414 + (8 * x6)) + 5) ∧ a ((414 + (8 * x6)) + 5) ≤ 9 := V_o5 hV9 (i := x6) (by omega) (by omega)
        refine ok_iaload (v := (a ((414 + (8 * x6)) + 5))) (pc' := 65) i240_64 (ShModel_k5 hSO) (by decide) (ShModel_l5 hSO) (by omega) (rd_ni (by omega) (rd_ni (by omega) (RepO_s hR9))) rfl <| ok_iconst (pc' := 66) i240_65 rfl <| ok_iadd (v := ((a ((414 + (8 * x6)) + 5)) + 1)) (pc' := 67) i240_66 rfl rfl <| ok_iastore (pc' := 68) i240_67 (ShModel_k5 hSO) (ShModel_l5 hSO) (by omega) rfl <| ok_aloadn (pc' := 69) i240_68 rfl rfl <| ok_getfr (r := (O + 5)) (pc' := 72) i240_69 o240 gr9_22 (ShModel_k0 hSO) (ShModel_r8 hSO) rfl <| ok_bipush (v := 10) (pc' := 74) i240_72 rfl rfl <| ok_dup2 (pc' := 75) i240_74 ⟨rfl, rfl⟩ rfl <| ?_
        refine ok_iaload (v := (a 10)) (pc' := 76) i240_75 (ShModel_k5 hSO) (by decide) (ShModel_l5 hSO) (by decide) (rd_ni (by omega) (rd_ni (by omega) (rd_ni (by omega) (RepO_s hR9)))) rfl <| ok_iloadn (pc' := 77) i240_76 rfl rfl <| ok_kz1 (pc1 := 91) (pc2 := 80) i240_77 (by decide) rfl rfl <| ok_aloadn (pc' := 92) i240_91 rfl rfl <| ok_iloadn (pc' := 93) i240_92 rfl rfl <| ok_iconst (pc' := 94) i240_93 rfl <| ok_cc i240_94 rfl (cl_v o240 m9_226 na191 rfl rfl (bt rfl) (bt rfl) rfl (by rw [ShModel_k0 hSO, o191])) ln191 (pd191 (aR O) (aI x6) (aI 2)) <| ok_aloadn (pc' := 1) i191_0 rfl rfl <| ?_
        refine ok_getfr (r := (O + 5)) (pc' := 4) i191_1 o191 gr9_22 (ShModel_k0 hSO) (ShModel_r8 hSO) rfl <| ok_sipush (v := 414) (pc' := 7) i191_4 rfl rfl <| ok_bipush (v := 8) (pc' := 9) i191_7 rfl rfl <| ok_iloadn (pc' := 10) i191_9 rfl rfl <| ok_imul (v := (8 * x6)) (pc' := 11) i191_10 rfl rfl <| ok_iadd (v := (414 + (8 * x6))) (pc' := 12) i191_11 rfl rfl <| ok_iloadn (pc' := 13) i191_12 rfl rfl <| ok_iadd (v := ((414 + (8 * x6)) + 2)) (pc' := 14) i191_13 rfl rfl <| ?_
        have z65 : 0 ≤ a ((414 + (8 * x6)) + 2) ∧ a ((414 + (8 * x6)) + 2) ≤ 99 := V_o2 hV9 (i := x6) (by omega) (by omega)
        refine ok_iaload (v := (a ((414 + (8 * x6)) + 2))) (pc' := 15) i191_14 (ShModel_k5 hSO) (by decide) (ShModel_l5 hSO) (by omega) (rd_ni (by omega) (rd_ni (by omega) (rd_ni (by omega) (RepO_s hR9)))) rfl <| ok_ireti i191_15 rt191 <| kt_v (pc' := 97) rfl <| ok_iadd (v := ((a 10) + (a ((414 + (8 * x6)) + 2)))) (pc' := 98) i240_97 rfl rfl <| ok_iastore (pc' := 99) i240_98 (ShModel_k5 hSO) (ShModel_l5 hSO) (by decide) rfl <| ok_aloadn (pc' := 100) i240_99 rfl rfl <| ok_getfr (r := (O + 5)) (pc' := 103) i240_100 o240 gr9_22 (ShModel_k0 hSO) (ShModel_r8 hSO) rfl <| ok_bipush (v := 12) (pc' := 105) i240_103 rfl rfl <| ?_
        refine ok_dup2 (pc' := 106) i240_105 ⟨rfl, rfl⟩ rfl <| ok_iaload (v := (a 12)) (pc' := 107) i240_106 (ShModel_k5 hSO) (by decide) (ShModel_l5 hSO) (by decide) (rd_ni (by decide) (rd_ni (by omega) (rd_ni (by omega) (rd_ni (by omega) (RepO_s hR9))))) rfl <| ok_iloadn (pc' := 108) i240_107 rfl rfl <| ok_cc i240_108 rfl (cl_s o240 m9_193 na185 rfl rfl (bt rfl) (bt rfl) rfl) ln185 (pd185 (aI 0)) <| ok_iloadn (pc' := 1) i185_0 rfl rfl <| ok_kz1 (pc1 := 8) (pc2 := 4) i185_1 (by decide) rfl rfl <| ok_iconst (pc' := 9) i185_8 rfl <| ok_ireti i185_9 rt185 <| ?_
        refine kt_v (pc' := 111) rfl <| ok_iadd (v := (a 12)) (pc' := 112) i240_111 (by omega) rfl <| ok_iastore (pc' := 113) i240_112 (ShModel_k5 hSO) (ShModel_l5 hSO) (by decide) rfl <| ok_vret i240_113 rt240 <| kt_0 (pc' := 154) rfl <| ok_goto (pc' := 112) i272_154 rfl <| ?_
        have hx : x + 1 ≤ (supM s x6 x1) := by unfold supM; omega
        have e1 : itv (supF x1 x6) s 0 (x + 1).toNat = supF x1 x6 x a := by rw [show (x + 1).toNat = x.toNat + 1 by omega, itv, e, Int.zero_add, Int.toNat_of_nonneg (by omega)]
        have hS := sup_aft hV h6 hx1 (x + 1).toNat (by omega)
        rw [e1, Int.toNat_of_nonneg (by omega)] at hS
        refine ih (supF x1 x6 x a) _ _ (by rw [hS.2.1]; omega) ⟨x + 1, by omega, e1, ?_, hS.1, hS.2.1, hS.2.2.1, hS.2.2.2.1, rfl⟩
        have e8 : (up2 (up2 (up2 (up2 (up2 M9 (O + 5) (542 + x1) ((a (542 + x1)) - 1)) (O + 5) ((414 + (8 * x6)) + 4) ((a ((414 + (8 * x6)) + 4)) - 1)) (O + 5) ((414 + (8 * x6)) + 5) ((a ((414 + (8 * x6)) + 5)) + 1)) (O + 5) 10 ((a 10) + (a ((414 + (8 * x6)) + 2)))) (O + 5) 12 (a 12)) = upM M (O + 5) (supF x1 x6 x a) := by
          simp only [hM, up2_upM, upM_upM, upM_at]
          refine congrArg _ (funext fun k => ?_)
          simp only [supF, giveS, give2, upI]
          grind (splits := 60)
        exact e8
      · refine ok_iconst (pc' := 16) i240_15 rfl <| ok_goto (pc' := 20) i240_16 rfl <| ok_istoren (pc' := 21) (ls' := [aR O, aI x6, aI 1]) i240_20 (bt rfl) rfl rfl <| ok_aloadn (pc' := 22) i240_21 rfl rfl <| ok_getfr (r := (O + 5)) (pc' := 25) i240_22 o240 gr9_22 (ShModel_k0 hSO) (ShModel_r8 hSO) rfl <| ok_sipush (v := 414) (pc' := 28) i240_25 rfl rfl <| ok_bipush (v := 8) (pc' := 30) i240_28 rfl rfl <| ok_iloadn (pc' := 31) i240_30 rfl rfl <| ?_
        refine ok_imul (v := (8 * x6)) (pc' := 32) i240_31 rfl rfl <| ok_iadd (v := (414 + (8 * x6))) (pc' := 33) i240_32 rfl rfl <| ok_iconst (pc' := 34) i240_33 rfl <| ok_iadd (v := ((414 + (8 * x6)) + 4)) (pc' := 35) i240_34 rfl rfl <| ok_dup2 (pc' := 36) i240_35 ⟨rfl, rfl⟩ rfl <| ok_iaload (v := (a ((414 + (8 * x6)) + 4))) (pc' := 37) i240_36 (ShModel_k5 hSO) (by decide) (ShModel_l5 hSO) (by omega) (rd_ni (by omega) (RepO_s hR9)) rfl <| ok_iconst (pc' := 38) i240_37 rfl <| ok_isub (v := ((a ((414 + (8 * x6)) + 4)) - 1)) (pc' := 39) i240_38 rfl rfl <| ?_
        refine ok_iastore (pc' := 40) i240_39 (ShModel_k5 hSO) (ShModel_l5 hSO) (by omega) rfl <| ok_aloadn (pc' := 41) i240_40 rfl rfl <| ok_getfr (r := (O + 5)) (pc' := 44) i240_41 o240 gr9_22 (ShModel_k0 hSO) (ShModel_r8 hSO) rfl <| ok_sipush (v := 414) (pc' := 47) i240_44 rfl rfl <| ok_bipush (v := 8) (pc' := 49) i240_47 rfl rfl <| ok_iloadn (pc' := 50) i240_49 rfl rfl <| ok_imul (v := (8 * x6)) (pc' := 51) i240_50 rfl rfl <| ok_iadd (v := (414 + (8 * x6))) (pc' := 52) i240_51 rfl rfl <| ?_
        refine ok_iloadn (pc' := 53) i240_52 rfl rfl <| ok_kz0 (pc1 := 61) (pc2 := 56) i240_53 (by decide) rfl rfl <| ok_bipush (v := 6) (pc' := 58) i240_56 rfl rfl <| ok_goto (pc' := 62) i240_58 rfl <| ok_iadd (v := ((414 + (8 * x6)) + 6)) (pc' := 63) i240_62 rfl rfl <| ok_dup2 (pc' := 64) i240_63 ⟨rfl, rfl⟩ rfl <| ?_
        have z66 : 0 ≤ a ((414 + (8 * x6)) + 6) ∧ a ((414 + (8 * x6)) + 6) ≤ 9 := V_o6 hV9 (i := x6) (by omega) (by omega)
        refine ok_iaload (v := (a ((414 + (8 * x6)) + 6))) (pc' := 65) i240_64 (ShModel_k5 hSO) (by decide) (ShModel_l5 hSO) (by omega) (rd_ni (by omega) (rd_ni (by omega) (RepO_s hR9))) rfl <| ok_iconst (pc' := 66) i240_65 rfl <| ok_iadd (v := ((a ((414 + (8 * x6)) + 6)) + 1)) (pc' := 67) i240_66 rfl rfl <| ok_iastore (pc' := 68) i240_67 (ShModel_k5 hSO) (ShModel_l5 hSO) (by omega) rfl <| ok_aloadn (pc' := 69) i240_68 rfl rfl <| ok_getfr (r := (O + 5)) (pc' := 72) i240_69 o240 gr9_22 (ShModel_k0 hSO) (ShModel_r8 hSO) rfl <| ok_bipush (v := 10) (pc' := 74) i240_72 rfl rfl <| ok_dup2 (pc' := 75) i240_74 ⟨rfl, rfl⟩ rfl <| ?_
        refine ok_iaload (v := (a 10)) (pc' := 76) i240_75 (ShModel_k5 hSO) (by decide) (ShModel_l5 hSO) (by decide) (rd_ni (by omega) (rd_ni (by omega) (rd_ni (by omega) (RepO_s hR9)))) rfl <| ok_iloadn (pc' := 77) i240_76 rfl rfl <| ok_kz0 (pc1 := 91) (pc2 := 80) i240_77 (by decide) rfl rfl <| ok_aloadn (pc' := 81) i240_80 rfl rfl <| ok_iloadn (pc' := 82) i240_81 rfl rfl <| ok_iconst (pc' := 83) i240_82 rfl <| ok_cc i240_83 rfl (cl_v o240 m9_226 na191 rfl rfl (bt rfl) (bt rfl) rfl (by rw [ShModel_k0 hSO, o191])) ln191 (pd191 (aR O) (aI x6) (aI 2)) <| ok_aloadn (pc' := 1) i191_0 rfl rfl <| ?_
        refine ok_getfr (r := (O + 5)) (pc' := 4) i191_1 o191 gr9_22 (ShModel_k0 hSO) (ShModel_r8 hSO) rfl <| ok_sipush (v := 414) (pc' := 7) i191_4 rfl rfl <| ok_bipush (v := 8) (pc' := 9) i191_7 rfl rfl <| ok_iloadn (pc' := 10) i191_9 rfl rfl <| ok_imul (v := (8 * x6)) (pc' := 11) i191_10 rfl rfl <| ok_iadd (v := (414 + (8 * x6))) (pc' := 12) i191_11 rfl rfl <| ok_iloadn (pc' := 13) i191_12 rfl rfl <| ok_iadd (v := ((414 + (8 * x6)) + 2)) (pc' := 14) i191_13 rfl rfl <| ?_
        have z67 : 0 ≤ a ((414 + (8 * x6)) + 2) ∧ a ((414 + (8 * x6)) + 2) ≤ 99 := V_o2 hV9 (i := x6) (by omega) (by omega)
        refine ok_iaload (v := (a ((414 + (8 * x6)) + 2))) (pc' := 15) i191_14 (ShModel_k5 hSO) (by decide) (ShModel_l5 hSO) (by omega) (rd_ni (by omega) (rd_ni (by omega) (rd_ni (by omega) (RepO_s hR9)))) rfl <| ok_ireti i191_15 rt191 <| kt_v (pc' := 86) rfl <| ok_iconst (pc' := 87) i240_86 rfl <| ok_idivp (v := (Int.tdiv (a ((414 + (8 * x6)) + 2)) 2)) (pc' := 88) i240_87 (by omega) rfl rfl <| ok_goto (pc' := 97) i240_88 rfl <| ok_iadd (v := ((a 10) + (Int.tdiv (a ((414 + (8 * x6)) + 2)) 2))) (pc' := 98) i240_97 rfl rfl <| ok_iastore (pc' := 99) i240_98 (ShModel_k5 hSO) (ShModel_l5 hSO) (by decide) rfl <| ?_
        refine ok_aloadn (pc' := 100) i240_99 rfl rfl <| ok_getfr (r := (O + 5)) (pc' := 103) i240_100 o240 gr9_22 (ShModel_k0 hSO) (ShModel_r8 hSO) rfl <| ok_bipush (v := 12) (pc' := 105) i240_103 rfl rfl <| ok_dup2 (pc' := 106) i240_105 ⟨rfl, rfl⟩ rfl <| ok_iaload (v := (a 12)) (pc' := 107) i240_106 (ShModel_k5 hSO) (by decide) (ShModel_l5 hSO) (by decide) (rd_ni (by decide) (rd_ni (by omega) (rd_ni (by omega) (rd_ni (by omega) (RepO_s hR9))))) rfl <| ok_iloadn (pc' := 108) i240_107 rfl rfl <| ok_cc i240_108 rfl (cl_s o240 m9_193 na185 rfl rfl (bt rfl) (bt rfl) rfl) ln185 (pd185 (aI 1)) <| ok_iloadn (pc' := 1) i185_0 rfl rfl <| ?_
        refine ok_kz0 (pc1 := 8) (pc2 := 4) i185_1 (by decide) rfl rfl <| ok_iconst (pc' := 5) i185_4 rfl <| ok_goto (pc' := 9) i185_5 rfl <| ok_ireti i185_9 rt185 <| kt_v (pc' := 111) rfl <| ok_iadd (v := ((a 12) + 1)) (pc' := 112) i240_111 rfl rfl <| ok_iastore (pc' := 113) i240_112 (ShModel_k5 hSO) (ShModel_l5 hSO) (by decide) rfl <| ok_vret i240_113 rt240 <| ?_
        refine kt_0 (pc' := 154) rfl <| ok_goto (pc' := 112) i272_154 rfl <| ?_
        have hx : x + 1 ≤ (supM s x6 x1) := by unfold supM; omega
        have e1 : itv (supF x1 x6) s 0 (x + 1).toNat = supF x1 x6 x a := by rw [show (x + 1).toNat = x.toNat + 1 by omega, itv, e, Int.zero_add, Int.toNat_of_nonneg (by omega)]
        have hS := sup_aft hV h6 hx1 (x + 1).toNat (by omega)
        rw [e1, Int.toNat_of_nonneg (by omega)] at hS
        refine ih (supF x1 x6 x a) _ _ (by rw [hS.2.1]; omega) ⟨x + 1, by omega, e1, ?_, hS.1, hS.2.1, hS.2.2.1, hS.2.2.2.1, rfl⟩
        have e8 : (up2 (up2 (up2 (up2 (up2 M9 (O + 5) (542 + x1) ((a (542 + x1)) - 1)) (O + 5) ((414 + (8 * x6)) + 4) ((a ((414 + (8 * x6)) + 4)) - 1)) (O + 5) ((414 + (8 * x6)) + 6) ((a ((414 + (8 * x6)) + 6)) + 1)) (O + 5) 10 ((a 10) + (Int.tdiv (a ((414 + (8 * x6)) + 2)) 2))) (O + 5) 12 ((a 12) + 1)) = upM M (O + 5) (supF x1 x6 x a) := by
          simp only [hM, up2_upM, upM_upM, upM_at]
          refine congrArg _ (funext fun k => ?_)
          simp only [supF, giveS, give2, upI]
          grind (splits := 60)
        exact e8
theorem t182 {g : AG} {M : AM} {O : Nat} {s q : Int → Int} {b : Int} {x1 x2 x3 x4 : Int} (hSO : ShModel g O) (hRO : RepO M O q s) (hV : Val b q s) (hQ : ValQ q) (h4 : s 4 < 16) :
    Ok 0 182 0 [aR (O + 5), aI x1, aI x2, aI x3, aI x4, aU] [] g M (Rt none g (fun M9 => M9 = upM M (O + 5) (ordS s x1 x2 x3 x4))) := by
  have ys3 : 0 ≤ s 3 ∧ s 3 ≤ 80 := V_3 hV
  have ys4 : 0 ≤ s 4 ∧ s 4 ≤ 16 := V_4 hV
  have yq0 : 0 ≤ q 0 ∧ q 0 ≤ 4 := Q_0 hQ
  have yq1 : 0 ≤ q 1 ∧ q 1 ≤ 6 := Q_1 hQ
  refine ok_sipush (v := 414) (pc' := 3) i182_0 rfl rfl <| ok_bipush (v := 8) (pc' := 5) i182_3 rfl rfl <| ok_aloadn (pc' := 6) i182_5 rfl rfl <| ok_iconst (pc' := 7) i182_6 rfl <| ok_iaload (v := (s 4)) (pc' := 8) i182_7 (ShModel_k5 hSO) (by decide) (ShModel_l5 hSO) (by decide) (RepO_s hRO) rfl <| ok_imul (v := (8 * (s 4))) (pc' := 9) i182_8 rfl rfl <| ok_iadd (v := (414 + (8 * (s 4)))) (pc' := 10) i182_9 rfl rfl <| ok_istore (pc' := 12) (ls' := [aR (O + 5), aI x1, aI x2, aI x3, aI x4, aI (414 + (8 * (s 4)))]) i182_10 (bt rfl) rfl rfl <| ?_
  refine ok_aloadn (pc' := 13) i182_12 rfl rfl <| ok_iload (pc' := 15) i182_13 rfl rfl <| ok_iconst (pc' := 16) i182_15 rfl <| ok_iadd (v := (414 + (8 * (s 4)))) (pc' := 17) i182_16 (by omega) rfl <| ok_iloadn (pc' := 18) i182_17 rfl rfl <| ok_iastore (pc' := 19) i182_18 (ShModel_k5 hSO) (ShModel_l5 hSO) (by omega) rfl <| ok_aloadn (pc' := 20) i182_19 rfl rfl <| ok_iload (pc' := 22) i182_20 rfl rfl <| ?_
  refine ok_iconst (pc' := 23) i182_22 rfl <| ok_iadd (v := ((414 + (8 * (s 4))) + 1)) (pc' := 24) i182_23 rfl rfl <| ok_iloadn (pc' := 25) i182_24 rfl rfl <| ok_iastore (pc' := 26) i182_25 (ShModel_k5 hSO) (ShModel_l5 hSO) (by omega) rfl <| ok_aloadn (pc' := 27) i182_26 rfl rfl <| ok_iload (pc' := 29) i182_27 rfl rfl <| ok_iconst (pc' := 30) i182_29 rfl <| ok_iadd (v := ((414 + (8 * (s 4))) + 2)) (pc' := 31) i182_30 rfl rfl <| ?_
  refine ok_iloadn (pc' := 32) i182_31 rfl rfl <| ok_iastore (pc' := 33) i182_32 (ShModel_k5 hSO) (ShModel_l5 hSO) (by omega) rfl <| ok_aloadn (pc' := 34) i182_33 rfl rfl <| ok_iload (pc' := 36) i182_34 rfl rfl <| ok_iconst (pc' := 37) i182_36 rfl <| ok_iadd (v := ((414 + (8 * (s 4))) + 3)) (pc' := 38) i182_37 rfl rfl <| ok_iload (pc' := 40) i182_38 rfl rfl <| ok_iastore (pc' := 41) i182_40 (ShModel_k5 hSO) (ShModel_l5 hSO) (by omega) rfl <| ?_
  refine ok_aloadn (pc' := 42) i182_41 rfl rfl <| ok_iload (pc' := 44) i182_42 rfl rfl <| ok_iconst (pc' := 45) i182_44 rfl <| ok_iadd (v := ((414 + (8 * (s 4))) + 4)) (pc' := 46) i182_45 rfl rfl <| ok_iloadn (pc' := 47) i182_46 rfl rfl <| ok_iastore (pc' := 48) i182_47 (ShModel_k5 hSO) (ShModel_l5 hSO) (by omega) rfl <| ok_aloadn (pc' := 49) i182_48 rfl rfl <| ok_iload (pc' := 51) i182_49 rfl rfl <| ?_
  refine ok_iconst (pc' := 52) i182_51 rfl <| ok_iadd (v := ((414 + (8 * (s 4))) + 5)) (pc' := 53) i182_52 rfl rfl <| ok_iconst (pc' := 54) i182_53 rfl <| ok_iastore (pc' := 55) i182_54 (ShModel_k5 hSO) (ShModel_l5 hSO) (by omega) rfl <| ok_aloadn (pc' := 56) i182_55 rfl rfl <| ok_iload (pc' := 58) i182_56 rfl rfl <| ok_bipush (v := 6) (pc' := 60) i182_58 rfl rfl <| ok_iadd (v := ((414 + (8 * (s 4))) + 6)) (pc' := 61) i182_60 rfl rfl <| ?_
  refine ok_iconst (pc' := 62) i182_61 rfl <| ok_iastore (pc' := 63) i182_62 (ShModel_k5 hSO) (ShModel_l5 hSO) (by omega) rfl <| ok_aloadn (pc' := 64) i182_63 rfl rfl <| ok_iload (pc' := 66) i182_64 rfl rfl <| ok_bipush (v := 7) (pc' := 68) i182_66 rfl rfl <| ok_iadd (v := ((414 + (8 * (s 4))) + 7)) (pc' := 69) i182_68 rfl rfl <| ok_iconst (pc' := 70) i182_69 rfl <| ok_iastore (pc' := 71) i182_70 (ShModel_k5 hSO) (ShModel_l5 hSO) (by omega) rfl <| ?_
  refine ok_aloadn (pc' := 72) i182_71 rfl rfl <| ok_iconst (pc' := 73) i182_72 rfl <| ok_dup2 (pc' := 74) i182_73 ⟨rfl, rfl⟩ rfl <| ok_iaload (v := (s 4)) (pc' := 75) i182_74 (ShModel_k5 hSO) (by decide) (ShModel_l5 hSO) (by decide) (rd_ni (by omega) (rd_ni (by omega) (rd_ni (by omega) (rd_ni (by omega) (rd_ni (by omega) (rd_ni (by omega) (rd_ni (by omega) (rd_ni (by omega) (RepO_s hRO))))))))) rfl <| ok_iconst (pc' := 76) i182_75 rfl <| ok_iadd (v := ((s 4) + 1)) (pc' := 77) i182_76 rfl rfl <| ok_iastore (pc' := 78) i182_77 (ShModel_k5 hSO) (ShModel_l5 hSO) (by decide) rfl <| ok_vret i182_78 rt182 <| ?_
  have e8 : (up2 (up2 (up2 (up2 (up2 (up2 (up2 (up2 (up2 M (O + 5) (414 + (8 * (s 4))) x1) (O + 5) ((414 + (8 * (s 4))) + 1) x2) (O + 5) ((414 + (8 * (s 4))) + 2) x3) (O + 5) ((414 + (8 * (s 4))) + 3) x4) (O + 5) ((414 + (8 * (s 4))) + 4) x2) (O + 5) ((414 + (8 * (s 4))) + 5) 0) (O + 5) ((414 + (8 * (s 4))) + 6) 0) (O + 5) ((414 + (8 * (s 4))) + 7) 0) (O + 5) 4 ((s 4) + 1)) = upM M (O + 5) (ordS s x1 x2 x3 x4) := by
    simp only [up2_upM, upM_upM, upM_at, hRO.1, ordS]
  exact ⟨rfl, rfl, e8⟩
