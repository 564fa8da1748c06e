/-! ROUNDS (by program, wip/gen) -/
/-- a round's end, rod by rod -/
def endF (q : Int → Int) (r : Int) (a : (Int → Int) × Int) : (Int → Int) × Int := if a.1 (174 + r) = 0 then (if a.1 (334 + r) = 1 then (if a.1 (94 + r) < a.1 2 then (upI (scrA q a.1 r) (334 + r) 0, a.2 + a.1 (94 + r)) else (upI a.1 (334 + r) 0, a.2)) else (upI a.1 (334 + r) 0, a.2)) else (upI a.1 (334 + r) 0, a.2)
def endL (q s : Int → Int) : (Int → Int) × Int := itv (endF q) (s, 0) 0 (s 3).toNat
def endS (q s : Int → Int) : Int → Int := upI (endL q s).1 0 ((endL q s).1 0 + 1)
def endN (q s : Int → Int) : Int := (endL q s).2
theorem V_scr {b : Int} {q s : Int → Int} (hV : Val b q s) {r : Int} (hr : 0 ≤ r ∧ r < s 3) : Val b q (scrA q s r) := by
  have y3 := V_3 hV
  have hlo : ∀ k : Int, k < 8 ∨ (9 < k ∧ k ≠ 94 + r ∧ k ≠ 174 + r) → scrA q s r k = s k := by
    intro k hk
    unfold scrA
    simp only [upI]
    grind (splits := 40)
  have y4 := V_4 hV
  refine ⟨hV.1, by rw [hlo _ (by omega)]; exact hV.2.1, by rw [hlo _ (by omega)]; exact V_1 hV, by rw [hlo _ (by omega)]; exact V_2 hV, by rw [hlo _ (by omega)]; exact y3, by rw [hlo _ (by omega)]; exact y4, by rw [hlo _ (by omega)]; exact V_5 hV, ?_, ?_, ?_, V_q hV⟩
  · intro i h0 h1
    rw [hlo _ (by omega)] at h1
    have hi := hV.2.2.2.2.2.2.2.1 i h0 h1
    unfold RodV at hi ⊢
    by_cases h : i = r
    · subst h
      rw [hlo (14 + i) (by omega), hlo (334 + i) (by omega)]
      have e1 : scrA q s i (94 + i) = 0 := by unfold scrA; simp only [upI]; grind (splits := 40)
      have e2 : scrA q s i (174 + i) = 2 := by unfold scrA; simp only [upI]; grind (splits := 40)
      rw [e1, e2]
      exact ⟨hi.1, by omega, by omega, hi.2.2.2.1, by omega, by omega⟩
    · rw [hlo (14 + i) (by omega), hlo (334 + i) (by omega), hlo (94 + i) (by omega), hlo (174 + i) (by omega)]
      exact hi
  · intro o h0 h1
    rw [hlo _ (by omega)] at h1
    have hi := hV.2.2.2.2.2.2.2.2.1 o h0 h1
    unfold OrdV at hi ⊢
    rw [hlo _ (by omega), hlo _ (by omega), hlo _ (by omega), hlo _ (by omega), hlo _ (by omega), hlo _ (by omega), hlo _ (by omega), hlo _ (by omega)]
    exact hi
  · intro l h0 h1
    rw [hlo _ (by omega)]
    exact hV.2.2.2.2.2.2.2.2.2.1 l h0 h1
theorem V_now {b : Int} {q s : Int → Int} (hV : Val b q s) {r : Int} (hr : 0 ≤ r ∧ r < s 3) : Val b q (upI s (334 + r) 0) := by
  have y3 := V_3 hV
  have y4 := V_4 hV
  have hlo : ∀ k : Int, k ≠ 334 + r → upI s (334 + r) 0 k = s k := fun k hk => upI_ne hk
  refine ⟨hV.1, by rw [hlo _ (by omega)]; exact hV.2.1, by rw [hlo _ (by omega)]; exact V_1 hV, by rw [hlo _ (by omega)]; exact V_2 hV, by rw [hlo _ (by omega)]; exact y3, by rw [hlo _ (by omega)]; exact y4, by rw [hlo _ (by omega)]; exact V_5 hV, ?_, ?_, ?_, V_q hV⟩
  · intro i h0 h1
    rw [hlo _ (by omega)] at h1
    have hi := hV.2.2.2.2.2.2.2.1 i h0 h1
    unfold RodV at hi ⊢
    rw [hlo (14 + i) (by omega), hlo (94 + i) (by omega), hlo (174 + i) (by omega)]
    refine ⟨hi.1, hi.2.1, hi.2.2.1, ?_, hi.2.2.2.2⟩
    unfold upI
    have := hi.2.2.2.1
    split <;> omega
  · intro o h0 h1
    rw [hlo _ (by omega)] at h1
    have hi := hV.2.2.2.2.2.2.2.2.1 o h0 h1
    unfold OrdV at hi ⊢
    rw [hlo _ (by omega), hlo _ (by omega), hlo _ (by omega), hlo _ (by omega), hlo _ (by omega), hlo _ (by omega), hlo _ (by omega), hlo _ (by omega)]
    exact hi
  · intro l h0 h1
    rw [hlo _ (by omega)]
    exact hV.2.2.2.2.2.2.2.2.2.1 l h0 h1
theorem scr_3 {q s : Int → Int} {r : Int} (hr : 0 ≤ r) : scrA q s r 3 = s 3 := by
  unfold scrA
  simp only [upI]
  grind (splits := 40)
theorem V_endF {b : Int} {q t : Int → Int} {c r : Int} (hV : Val b q t) (hr : 0 ≤ r ∧ r < t 3) : Val b q (endF q r (t, c)).1 := by
  have h1 := V_now hV hr
  have h2 := V_now (V_scr hV hr) (r := r) ⟨hr.1, by rw [scr_3 hr.1]; exact hr.2⟩
  unfold endF
  dsimp only
  split
  · split
    · split
      · exact h2
      · exact h1
    · exact h1
  · exact h1
theorem o49 : am_oc 49 = 8 := by decide +kernel
theorem rt49 : am_rt 49 = some .int := by decide +kernel
theorem o48 : am_oc 48 = 8 := by decide +kernel
theorem m8_134 : am_mlk 8 134 0 49 = true := by decide +kernel
theorem na49 : am_na 49 = 1 := by decide +kernel
theorem nl49 : am_nL 49 = 3 := by decide +kernel
theorem pd49 : ∀ a0 a1 : AV, am_pad 49 [a0, a1] = [a0, a1, aU] := by intros; unfold am_pad; rw [nl49]; rfl
theorem ln49 : 2 ≤ am_nL 49 := by rw [nl49]; decide
theorem pi48_93 : am_pfi 48 8 93 5 0 = true := by decide +kernel
theorem rt48 : am_rt 48 = some .int := by decide +kernel
theorem t49 {g : AG} {M : AM} {W P B : Nat} {q s : Int → Int} {b : Int} {x1 : Int} (hSW : ShWorks g W P B) (hSP : ShPlan g P) (hSB : ShState g B) (hRP : RepP M P q) (hRB : RepS M B s) (hQ : ValQ q) (hV : Val b q s) (h1 : 0 ≤ x1 ∧ x1 < s 3) (h9 : P + 11 ≤ B ∨ B + 24 ≤ P) :
    Ok 1 49 0 [aR W, aI x1, aU] [] g M (Rt (some (aI (s (94 + x1)))) g (fun M9 => RepS M9 B (scrA q s x1) ∧ Wr B 24 M M9)) := by
  have yq0 : 0 ≤ q 0 ∧ q 0 ≤ 4 := Q_0 hQ
  have yq1 : 0 ≤ q 1 ∧ q 1 ≤ 6 := Q_1 hQ
  have ys3 : 0 ≤ s 3 ∧ s 3 ≤ 80 := V_3 hV
  have ys4 : 0 ≤ s 4 ∧ s 4 ≤ 16 := V_4 hV
  refine ok_aloadn (pc' := 1) i49_0 rfl rfl <| ok_getfr (r := B) (pc' := 4) i49_1 o49 gr8_15 (ShWorks_k0 hSW) (ShWorks_r1 hSW) rfl <| ok_getfr (r := (B + 2)) (pc' := 7) i49_4 o49 gr8_25 (ShState_k0 hSB) (ShState_r3 hSB) rfl <| ok_iconst (pc' := 8) i49_7 rfl <| ok_aaload (r := (B + 4)) (pc' := 9) i49_8 (ShState_k2 hSB) (by decide) (ShState_l2 hSB) (by decide) (ShState_e2_1 hSB) rfl <| ok_iloadn (pc' := 10) i49_9 rfl rfl <| ?_
  have z1 : 0 ≤ s (94 + x1) ∧ s (94 + x1) ≤ 200 := V_d1 hV (i := x1) (by omega) (by omega)
  refine ok_iaload (v := (s (94 + x1))) (pc' := 11) i49_10 (ShState_k4 hSB) (by decide) (ShState_l4 hSB) (by omega) (RepS_4 hRB (by omega) (by omega)) rfl <| ok_istoren (pc' := 12) (ls' := [aR W, aI x1, aI (s (94 + x1))]) i49_11 (bt rfl) rfl rfl <| ok_aloadn (pc' := 13) i49_12 rfl rfl <| ok_getfr (r := B) (pc' := 16) i49_13 o49 gr8_15 (ShWorks_k0 hSW) (ShWorks_r1 hSW) rfl <| ok_getfr (r := (B + 2)) (pc' := 19) i49_16 o49 gr8_25 (ShState_k0 hSB) (ShState_r3 hSB) rfl <| ok_iconst (pc' := 20) i49_19 rfl <| ok_aaload (r := (B + 4)) (pc' := 21) i49_20 (ShState_k2 hSB) (by decide) (ShState_l2 hSB) (by decide) (ShState_e2_1 hSB) rfl <| ok_iloadn (pc' := 22) i49_21 rfl rfl <| ?_
  refine ok_iconst (pc' := 23) i49_22 rfl <| ok_iastore (pc' := 24) i49_23 (ShState_k4 hSB) (ShState_l4 hSB) (by omega) rfl <| ok_aloadn (pc' := 25) i49_24 rfl rfl <| ok_getfr (r := B) (pc' := 28) i49_25 o49 gr8_15 (ShWorks_k0 hSW) (ShWorks_r1 hSW) rfl <| ok_getfr (r := (B + 2)) (pc' := 31) i49_28 o49 gr8_25 (ShState_k0 hSB) (ShState_r3 hSB) rfl <| ok_iconst (pc' := 32) i49_31 rfl <| ok_aaload (r := (B + 5)) (pc' := 33) i49_32 (ShState_k2 hSB) (by decide) (ShState_l2 hSB) (by decide) (ShState_e2_2 hSB) rfl <| ok_iloadn (pc' := 34) i49_33 rfl rfl <| ?_
  refine ok_iconst (pc' := 35) i49_34 rfl <| ok_iastore (pc' := 36) i49_35 (ShState_k5 hSB) (ShState_l5 hSB) (by omega) rfl <| ok_aloadn (pc' := 37) i49_36 rfl rfl <| ok_getfr (r := B) (pc' := 40) i49_37 o49 gr8_15 (ShWorks_k0 hSW) (ShWorks_r1 hSW) rfl <| ok_getfr (r := (B + 23)) (pc' := 43) i49_40 o49 gr8_70 (ShState_k0 hSB) (ShState_r9 hSB) rfl <| ok_iconst (pc' := 44) i49_43 rfl <| ok_dup2 (pc' := 45) i49_44 ⟨rfl, rfl⟩ rfl <| ok_iaload (v := (s 8)) (pc' := 46) i49_45 (ShState_k23 hSB) (by decide) (ShState_l23 hSB) (by decide) (rd_na (by omega) (rd_na (by omega) (RepS_23_2 hRB))) rfl <| ?_
  refine ok_iloadn (pc' := 47) i49_46 rfl rfl <| ok_iadd (v := ((s 8) + (s (94 + x1)))) (pc' := 48) i49_47 rfl rfl <| ok_iastore (pc' := 49) i49_48 (ShState_k23 hSB) (ShState_l23 hSB) (by decide) rfl <| ok_aloadn (pc' := 50) i49_49 rfl rfl <| ok_getfr (r := B) (pc' := 53) i49_50 o49 gr8_15 (ShWorks_k0 hSW) (ShWorks_r1 hSW) rfl <| ok_getfr (r := (B + 23)) (pc' := 56) i49_53 o49 gr8_70 (ShState_k0 hSB) (ShState_r9 hSB) rfl <| ok_iconst (pc' := 57) i49_56 rfl <| ok_dup2 (pc' := 58) i49_57 ⟨rfl, rfl⟩ rfl <| ?_
  refine ok_iaload (v := (s 9)) (pc' := 59) i49_58 (ShState_k23 hSB) (by decide) (ShState_l23 hSB) (by decide) (rd_ni (by decide) (rd_na (by omega) (rd_na (by omega) (RepS_23_3 hRB)))) rfl <| ok_iloadn (pc' := 60) i49_59 rfl rfl <| ok_aloadn (pc' := 61) i49_60 rfl rfl <| ok_iloadn (pc' := 62) i49_61 rfl rfl <| ok_cc i49_62 rfl (cl_v o49 m8_73 na36 rfl rfl (bt rfl) (bt rfl) rfl (by rw [ShWorks_k0 hSW, o36])) ln36 (pd36 (aR W) (aI x1)) <| ok_aloadn (pc' := 1) i36_0 rfl rfl <| ok_getfr (r := P) (pc' := 4) i36_1 o36 gr8_9 (ShWorks_k0 hSW) (ShWorks_r0 hSW) rfl <| ok_getfr (r := (P + 2)) (pc' := 7) i36_4 o36 gr8_19 (ShPlan_k0 hSP) (ShPlan_r2 hSP) rfl <| ?_
  refine ok_aloadn (pc' := 8) i36_7 rfl rfl <| ok_getfr (r := B) (pc' := 11) i36_8 o36 gr8_15 (ShWorks_k0 hSW) (ShWorks_r1 hSW) rfl <| ok_getfr (r := (B + 2)) (pc' := 14) i36_11 o36 gr8_25 (ShState_k0 hSB) (ShState_r3 hSB) rfl <| ok_iconst (pc' := 15) i36_14 rfl <| ok_aaload (r := (B + 3)) (pc' := 16) i36_15 (ShState_k2 hSB) (by decide) (ShState_l2 hSB) (by decide) (ShState_e2_0 hSB) rfl <| ok_iloadn (pc' := 17) i36_16 rfl rfl <| ?_
  have z2 : 0 ≤ s (14 + x1) ∧ s (14 + x1) < q 0 := V_d0 hV (i := x1) (by omega) (by omega)
  refine ok_iaload (v := (s (14 + x1))) (pc' := 18) i36_17 (ShState_k3 hSB) (by decide) (ShState_l3 hSB) (by omega) (rd_na (by omega) (rd_na (by omega) (rd_na (by omega) (RepS_3 hRB (by omega) (by omega))))) rfl <| ?_
  have z3 : 1 ≤ q (6 + (s (14 + x1))) ∧ q (6 + (s (14 + x1))) ≤ 99 := Q_6 hQ (i := (s (14 + x1))) (by omega) (by omega)
  refine ok_iaload (v := (q (6 + (s (14 + x1))))) (pc' := 19) i36_18 (ShPlan_k2 hSP) (by decide) (ShPlan_l2 hSP) (by omega) (rd_na (by omega) (rd_na (by omega) (rd_na (by omega) (RepP_2 hRP (by omega) (by omega))))) rfl <| ok_ireti i36_19 rt36 <| kt_v (pc' := 65) rfl <| ok_imul (v := ((s (94 + x1)) * (q (6 + (s (14 + x1)))))) (pc' := 66) i49_65 rfl rfl <| ok_iadd (v := ((s 9) + ((s (94 + x1)) * (q (6 + (s (14 + x1))))))) (pc' := 67) i49_66 rfl rfl <| ok_iastore (pc' := 68) i49_67 (ShState_k23 hSB) (ShState_l23 hSB) (by decide) rfl <| ok_iloadn (pc' := 69) i49_68 rfl rfl <| ok_ireti i49_69 rt49 <| ?_
  refine ⟨rfl, rfl, RepS_ext (RL_w23 (i := 3) (RL_w23 (i := 2) (RL_w5 (i := x1) (RL_w4 (i := x1) (RL0 hRB) (V_lim hV) (by omega) (by omega)) (V_lim hV) (by omega) (by omega)) (V_lim hV) (by omega) (by omega)) (V_lim hV) (by omega) (by omega)).1 (fun k => ?_), (Wr.up (Wr.up (Wr.up (Wr.up Wr.rfl (by omega)) (by omega)) (by omega)) (by omega))⟩
  simp only [scrA, upI]
  grind (splits := 40)
theorem t48 {g : AG} {M : AM} {W P B : Nat} {q s : Int → Int} {b : Int} (hSW : ShWorks g W P B) (hSP : ShPlan g P) (hSB : ShState g B) (hRP : RepP M P q) (hRB : RepS M B s) (hQ : ValQ q) (hV : Val b q s) (h9 : P + 11 ≤ B ∨ B + 24 ≤ P) :
    Ok 2 48 0 [aR W, aU, aU] [] g M (Rt (some (aI (endN q s))) g (fun M9 => RepS M9 B (endS q s) ∧ Wr B 24 M M9)) := by
  have yq0 : 0 ≤ q 0 ∧ q 0 ≤ 4 := Q_0 hQ
  have yq1 : 0 ≤ q 1 ∧ q 1 ≤ 6 := Q_1 hQ
  have ys3 : 0 ≤ s 3 ∧ s 3 ≤ 80 := V_3 hV
  have ys4 : 0 ≤ s 4 ∧ s 4 ≤ 16 := V_4 hV
  refine ok_iconst (pc' := 1) i48_0 rfl <| ok_istoren (pc' := 2) (ls' := [aR W, aI 0, aU]) i48_1 (bt rfl) rfl rfl <| ok_iconst (pc' := 3) i48_2 rfl <| ok_istoren (pc' := 4) (ls' := [aR W, aI 0, aI 0]) i48_3 (bt rfl) rfl rfl <| ?_
  refine ok_for (lo := 0) (n := (s 3).toNat) (f := (endF q)) (a0 := (s, 0)) (fun x2 a ls M9 => RepS M9 B a.1 ∧ Wr B 24 M M9 ∧ Val (b) q a.1 ∧ (a.1 3 = s 3) ∧ ls = [aR W, aI a.2, aI x2]) ?_ ?_ _ _ ⟨hRB, Wr.rfl, hV, rfl, rfl⟩
  · rintro x2 ⟨t, x1⟩ ls M9 g1 g2 ⟨hR9, hW9, hV9, e_t3, rfl⟩ ih
    dsimp only at *
    have g3 : x2 < s 3 := by omega
    have hP9 : RepP M9 P q := RepP.fr hRP (fun a h1 h2 => hW9 a (by omega))
    have yt3 := V_3 hV9
    have yt4 := V_4 hV9
    refine ok_iloadn (pc' := 5) i48_4 rfl rfl <| ok_aloadn (pc' := 6) i48_5 rfl rfl <| ok_getfr (r := B) (pc' := 9) i48_6 o48 gr8_15 (ShWorks_k0 hSW) (ShWorks_r1 hSW) rfl <| ok_getfi (v := (t 3)) (pc' := 12) i48_9 o48 gi8_49 (ShState_k0 hSB) (RepS_f2 hR9) rfl <| ?_
    refine ok_cge (pc1 := 93) (pc2 := 15) i48_12 (by omega) rfl rfl (fun h9 => by exfalso; omega) (fun h1 => ?_)
    refine ok_aloadn (pc' := 16) i48_15 rfl rfl <| ok_getfr (r := B) (pc' := 19) i48_16 o48 gr8_15 (ShWorks_k0 hSW) (ShWorks_r1 hSW) rfl <| ok_getfr (r := (B + 2)) (pc' := 22) i48_19 o48 gr8_25 (ShState_k0 hSB) (ShState_r3 hSB) rfl <| ok_iconst (pc' := 23) i48_22 rfl <| ok_aaload (r := (B + 7)) (pc' := 24) i48_23 (ShState_k2 hSB) (by decide) (ShState_l2 hSB) (by decide) (ShState_e2_4 hSB) rfl <| ok_iloadn (pc' := 25) i48_24 rfl rfl <| ?_
    have z61 : 0 ≤ t (334 + x2) ∧ t (334 + x2) ≤ 1 := V_d4 hV9 (i := x2) (by omega) (by omega)
    refine ok_iaload (v := (t (334 + x2))) (pc' := 26) i48_25 (ShState_k7 hSB) (by decide) (ShState_l7 hSB) (by omega) (RepS_7 hR9 (by omega) (by omega)) rfl <| ok_iconst (pc' := 27) i48_26 rfl <| ?_
    refine ok_cne (pc1 := 75) (pc2 := 30) i48_27 (by omega) rfl rfl (fun h2 => ?_) (fun h2 => ?_)
    · refine ok_aloadn (pc' := 76) i48_75 rfl rfl <| ok_getfr (r := B) (pc' := 79) i48_76 o48 gr8_15 (ShWorks_k0 hSW) (ShWorks_r1 hSW) rfl <| ok_getfr (r := (B + 2)) (pc' := 82) i48_79 o48 gr8_25 (ShState_k0 hSB) (ShState_r3 hSB) rfl <| ok_iconst (pc' := 83) i48_82 rfl <| ok_aaload (r := (B + 7)) (pc' := 84) i48_83 (ShState_k2 hSB) (by decide) (ShState_l2 hSB) (by decide) (ShState_e2_4 hSB) rfl <| ok_iloadn (pc' := 85) i48_84 rfl rfl <| ok_iconst (pc' := 86) i48_85 rfl <| ok_iastore (pc' := 87) i48_86 (ShState_k7 hSB) (ShState_l7 hSB) (by omega) rfl <| ?_
      refine ok_iinc (pc' := 90) (v := (x2 + 1)) (ls' := [aR W, aI x1, aI (x2 + 1)]) i48_87 rfl rfl rfl rfl <| ok_goto (pc' := 4) i48_90 rfl <| ?_
      have e : (endF q) x2 (t, x1) = ((upI t (334 + x2) 0), x1) := by
        simp only [endF, if_neg (show ¬ (t (334 + x2) = 1) by omega)]
        all_goals first | rfl | (split <;> rfl) | grind (splits := 40)
      exact ih _ _ ⟨by rw [e]; exact (RL_w7 (i := x2) (RL0 hR9) (V_lim hV9) (by omega) (by omega)).1, Wr.trans hW9 (Wr.up Wr.rfl (by omega)), V_endF hV9 ⟨by omega, by omega⟩, by rw [e]; simp only [upI]; omega, by rw [e]⟩
    · refine ok_aloadn (pc' := 31) i48_30 rfl rfl <| ok_getfr (r := B) (pc' := 34) i48_31 o48 gr8_15 (ShWorks_k0 hSW) (ShWorks_r1 hSW) rfl <| ok_getfr (r := (B + 2)) (pc' := 37) i48_34 o48 gr8_25 (ShState_k0 hSB) (ShState_r3 hSB) rfl <| ok_iconst (pc' := 38) i48_37 rfl <| ok_aaload (r := (B + 5)) (pc' := 39) i48_38 (ShState_k2 hSB) (by decide) (ShState_l2 hSB) (by decide) (ShState_e2_2 hSB) rfl <| ok_iloadn (pc' := 40) i48_39 rfl rfl <| ?_
      have z62 : 0 ≤ t (174 + x2) ∧ t (174 + x2) ≤ 2 := V_d2 hV9 (i := x2) (by omega) (by omega)
      refine ok_iaload (v := (t (174 + x2))) (pc' := 41) i48_40 (ShState_k5 hSB) (by decide) (ShState_l5 hSB) (by omega) (RepS_5 hR9 (by omega) (by omega)) rfl <| ?_
      refine ok_zne (pc1 := 75) (pc2 := 44) i48_41 (by omega) rfl rfl (fun h3 => ?_) (fun h3 => ?_)
      · refine ok_aloadn (pc' := 76) i48_75 rfl rfl <| ok_getfr (r := B) (pc' := 79) i48_76 o48 gr8_15 (ShWorks_k0 hSW) (ShWorks_r1 hSW) rfl <| ok_getfr (r := (B + 2)) (pc' := 82) i48_79 o48 gr8_25 (ShState_k0 hSB) (ShState_r3 hSB) rfl <| ok_iconst (pc' := 83) i48_82 rfl <| ok_aaload (r := (B + 7)) (pc' := 84) i48_83 (ShState_k2 hSB) (by decide) (ShState_l2 hSB) (by decide) (ShState_e2_4 hSB) rfl <| ok_iloadn (pc' := 85) i48_84 rfl rfl <| ok_iconst (pc' := 86) i48_85 rfl <| ok_iastore (pc' := 87) i48_86 (ShState_k7 hSB) (ShState_l7 hSB) (by omega) rfl <| ?_
        refine ok_iinc (pc' := 90) (v := (x2 + 1)) (ls' := [aR W, aI x1, aI (x2 + 1)]) i48_87 rfl rfl rfl rfl <| ok_goto (pc' := 4) i48_90 rfl <| ?_
        have e : (endF q) x2 (t, x1) = ((upI t (334 + x2) 0), x1) := by
          simp only [endF, if_neg (show ¬ (t (174 + x2) = 0) by omega), if_pos (show t (334 + x2) = 1 by omega)]
          all_goals first | rfl | (split <;> rfl) | grind (splits := 40)
        exact ih _ _ ⟨by rw [e]; exact (RL_w7 (i := x2) (RL0 hR9) (V_lim hV9) (by omega) (by omega)).1, Wr.trans hW9 (Wr.up Wr.rfl (by omega)), V_endF hV9 ⟨by omega, by omega⟩, by rw [e]; simp only [upI]; omega, by rw [e]⟩
      · refine ok_aloadn (pc' := 45) i48_44 rfl rfl <| ok_getfr (r := B) (pc' := 48) i48_45 o48 gr8_15 (ShWorks_k0 hSW) (ShWorks_r1 hSW) rfl <| ok_getfr (r := (B + 2)) (pc' := 51) i48_48 o48 gr8_25 (ShState_k0 hSB) (ShState_r3 hSB) rfl <| ok_iconst (pc' := 52) i48_51 rfl <| ok_aaload (r := (B + 4)) (pc' := 53) i48_52 (ShState_k2 hSB) (by decide) (ShState_l2 hSB) (by decide) (ShState_e2_1 hSB) rfl <| ok_iloadn (pc' := 54) i48_53 rfl rfl <| ?_
        have z63 : 0 ≤ t (94 + x2) ∧ t (94 + x2) ≤ 200 := V_d1 hV9 (i := x2) (by omega) (by omega)
        refine ok_iaload (v := (t (94 + x2))) (pc' := 55) i48_54 (ShState_k4 hSB) (by decide) (ShState_l4 hSB) (by omega) (RepS_4 hR9 (by omega) (by omega)) rfl <| ok_aloadn (pc' := 56) i48_55 rfl rfl <| ok_getfr (r := B) (pc' := 59) i48_56 o48 gr8_15 (ShWorks_k0 hSW) (ShWorks_r1 hSW) rfl <| ok_getfr (r := (B + 1)) (pc' := 62) i48_59 o48 gr8_31 (ShState_k0 hSB) (ShState_r1 hSB) rfl <| ok_iconst (pc' := 63) i48_62 rfl <| ?_
        have z64 : 1 ≤ t 2 ∧ t 2 ≤ 200 := V_2 hV9
        refine ok_iaload (v := (t 2)) (pc' := 64) i48_63 (ShState_k1 hSB) (by decide) (ShState_l1 hSB) (by decide) (RepS_1_1 hR9) rfl <| ?_
        refine ok_cge (pc1 := 75) (pc2 := 67) i48_64 (by omega) rfl rfl (fun h4 => ?_) (fun h4 => ?_)
        · refine ok_aloadn (pc' := 76) i48_75 rfl rfl <| ok_getfr (r := B) (pc' := 79) i48_76 o48 gr8_15 (ShWorks_k0 hSW) (ShWorks_r1 hSW) rfl <| ok_getfr (r := (B + 2)) (pc' := 82) i48_79 o48 gr8_25 (ShState_k0 hSB) (ShState_r3 hSB) rfl <| ok_iconst (pc' := 83) i48_82 rfl <| ok_aaload (r := (B + 7)) (pc' := 84) i48_83 (ShState_k2 hSB) (by decide) (ShState_l2 hSB) (by decide) (ShState_e2_4 hSB) rfl <| ok_iloadn (pc' := 85) i48_84 rfl rfl <| ok_iconst (pc' := 86) i48_85 rfl <| ok_iastore (pc' := 87) i48_86 (ShState_k7 hSB) (ShState_l7 hSB) (by omega) rfl <| ?_
          refine ok_iinc (pc' := 90) (v := (x2 + 1)) (ls' := [aR W, aI x1, aI (x2 + 1)]) i48_87 rfl rfl rfl rfl <| ok_goto (pc' := 4) i48_90 rfl <| ?_
          have e : (endF q) x2 (t, x1) = ((upI t (334 + x2) 0), x1) := by
            simp only [endF, if_pos (show t (174 + x2) = 0 by omega), if_pos (show t (334 + x2) = 1 by omega), if_neg (show ¬ (t (94 + x2) < t 2) by omega)]
            all_goals first | rfl | (split <;> rfl) | grind (splits := 40)
          exact ih _ _ ⟨by rw [e]; exact (RL_w7 (i := x2) (RL0 hR9) (V_lim hV9) (by omega) (by omega)).1, Wr.trans hW9 (Wr.up Wr.rfl (by omega)), V_endF hV9 ⟨by omega, by omega⟩, by rw [e]; simp only [upI]; omega, by rw [e]⟩
        · refine ok_iloadn (pc' := 68) i48_67 rfl rfl <| ok_aloadn (pc' := 69) i48_68 rfl rfl <| ok_iloadn (pc' := 70) i48_69 rfl rfl <| ?_
          refine ok_cn (pc' := 73) (d0 := 1) i48_70 rfl (cl_v o48 m8_134 na49 rfl rfl (bt rfl) (bt rfl) rfl (by rw [ShWorks_k0 hSW, o49])) ln49 (pd49 (aR W) (aI x2)) (by decide) (t49 (x1 := x2) hSW hSP hSB hP9 hR9 hQ hV9 (by omega) (by omega)) rfl (fun M5 p6 => ?_)
          obtain ⟨s5, hs5⟩ : ∃ u9 : Int → Int, u9 = scrA q t x2 := ⟨_, rfl⟩
          rw [← hs5] at p6
          have hRM5 : RepS M5 B s5 := p6.1
          have hPM5P : RepP M5 P q := RepP.fr hP9 (fun a h1 h2 => p6.2 a (by omega))
          have hVM5 : Val b q s5 := by rw [hs5]; exact V_scr hV9 ⟨by omega, by omega⟩
          have z65 : 0 ≤ s5 3 ∧ s5 3 ≤ 80 := V_3 hVM5
          have z66 : 0 ≤ s5 4 ∧ s5 4 ≤ 16 := V_4 hVM5
          have z67 : s5 3 = t 3 := by rw [hs5]; exact scr_3 (by omega)
          refine ok_iadd (v := (x1 + (t (94 + x2)))) (pc' := 74) i48_73 rfl rfl <| ok_istoren (pc' := 75) (ls' := [aR W, aI (x1 + (t (94 + x2))), aI x2]) i48_74 (bt rfl) rfl rfl <| ok_aloadn (pc' := 76) i48_75 rfl rfl <| ok_getfr (r := B) (pc' := 79) i48_76 o48 gr8_15 (ShWorks_k0 hSW) (ShWorks_r1 hSW) rfl <| ok_getfr (r := (B + 2)) (pc' := 82) i48_79 o48 gr8_25 (ShState_k0 hSB) (ShState_r3 hSB) rfl <| ok_iconst (pc' := 83) i48_82 rfl <| ok_aaload (r := (B + 7)) (pc' := 84) i48_83 (ShState_k2 hSB) (by decide) (ShState_l2 hSB) (by decide) (ShState_e2_4 hSB) rfl <| ok_iloadn (pc' := 85) i48_84 rfl rfl <| ?_
          refine ok_iconst (pc' := 86) i48_85 rfl <| ok_iastore (pc' := 87) i48_86 (ShState_k7 hSB) (ShState_l7 hSB) (by omega) rfl <| ok_iinc (pc' := 90) (v := (x2 + 1)) (ls' := [aR W, aI (x1 + (t (94 + x2))), aI (x2 + 1)]) i48_87 rfl rfl rfl rfl <| ok_goto (pc' := 4) i48_90 rfl <| ?_
          have e : (endF q) x2 (t, x1) = ((upI s5 (334 + x2) 0), (x1 + (t (94 + x2)))) := by
            simp only [endF, hs5, if_pos (show t (174 + x2) = 0 by omega), if_pos (show t (334 + x2) = 1 by omega), if_pos (show t (94 + x2) < t 2 by omega)]
            all_goals first | rfl | (split <;> rfl) | grind (splits := 40)
          exact ih _ _ ⟨by rw [e]; exact (RL_w7 (i := x2) (RL0 hRM5) (V_lim hVM5) (by omega) (by omega)).1, Wr.trans hW9 (Wr.up p6.2 (by omega)), V_endF hV9 ⟨by omega, by omega⟩, by rw [e]; simp only [upI]; omega, by rw [e]⟩
  · rintro x2 ⟨t, x1⟩ ls M9 g1 g2 ⟨hR9, hW9, hV9, e_t3, rfl⟩
    dsimp only at *
    have g3 : x2 = s 3 := by omega
    have hP9 : RepP M9 P q := RepP.fr hRP (fun a h1 h2 => hW9 a (by omega))
    have yt3 := V_3 hV9
    have yt4 := V_4 hV9
    refine ok_iloadn (pc' := 5) i48_4 rfl rfl <| ok_aloadn (pc' := 6) i48_5 rfl rfl <| ok_getfr (r := B) (pc' := 9) i48_6 o48 gr8_15 (ShWorks_k0 hSW) (ShWorks_r1 hSW) rfl <| ok_getfi (v := (t 3)) (pc' := 12) i48_9 o48 gi8_49 (ShState_k0 hSB) (RepS_f2 hR9) rfl <| ?_
    refine ok_cge (pc1 := 93) (pc2 := 15) i48_12 (by omega) rfl rfl (fun h1 => ?_) (fun h9 => by exfalso; omega)
    refine ok_aloadn (pc' := 94) i48_93 rfl rfl <| ok_getfr (r := B) (pc' := 97) i48_94 o48 gr8_15 (ShWorks_k0 hSW) (ShWorks_r1 hSW) rfl <| ok_dup (pc' := 98) i48_97 rfl rfl <| ?_
    have z61 : 0 ≤ t 0 ∧ t 0 ≤ 1000000 := V_0 hV9
    refine ok_getfi (v := (t 0)) (pc' := 101) i48_98 o48 gi8_93 (ShState_k0 hSB) (RepS_f0 hR9) rfl <| ok_iconst (pc' := 102) i48_101 rfl <| ok_iadd (v := ((t 0) + 1)) (pc' := 103) i48_102 rfl rfl <| ok_putfi (pc' := 106) i48_103 o48 pi48_93 (ShState_k0 hSB) rfl <| ok_iloadn (pc' := 107) i48_106 rfl rfl <| ok_ireti i48_107 rt48 <| ?_
    have e : endS q s = (upI t 0 ((t 0) + 1)) := by simp only [endS, endN, endL]; rw [g2]
    have e2 : endN q s = x1 := by simp only [endS, endN, endL]; rw [g2]
    exact ⟨by rw [e2], rfl, by rw [e]; exact (RL_wf0 (RL0 hR9) (V_lim hV9)).1, Wr.trans hW9 (Wr.up Wr.rfl (by omega))⟩
