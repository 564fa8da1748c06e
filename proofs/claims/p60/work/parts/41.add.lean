/-! RODS AND ORDERS COME (by program, wip/gen) -/
def addT (s : Int → Int) (k l : Int) : Int → Int := upI (upI (upI (upI (upI (upI s (14 + s 3) k) (94 + s 3) l) (174 + s 3) 0) (254 + s 3) 0) (334 + s 3) 0) 3 (s 3 + 1)
theorem addS_T {q s : Int → Int} {k : Int} : addS q s k = addT s k (q (2 + k)) := rfl
def ordS (s : Int → Int) (l n v d : Int) : Int → Int := upI (upI (upI (upI (upI (upI (upI (upI (upI s (414 + (8 * s 4)) l) ((414 + (8 * s 4)) + 1) n) ((414 + (8 * s 4)) + 2) v) ((414 + (8 * s 4)) + 3) d) ((414 + (8 * s 4)) + 4) n) ((414 + (8 * s 4)) + 5) 0) ((414 + (8 * s 4)) + 6) 0) ((414 + (8 * s 4)) + 7) 0) 4 (s 4 + 1)
theorem RepS_add {M : AM} {B : Nat} {s : Int → Int} (h : RepS M B s) (l : Lim s) {k x : Int} (h3 : s 3 < 80) (h30 : 0 ≤ s 3) : RepS (up2 (up2 (up2 (up2 (up2 (up2 M (B + 3) (s 3) k) (B + 4) (s 3) x) (B + 5) (s 3) 0) (B + 6) (s 3) 0) (B + 7) (s 3) 0) B 2 (s 3 + 1)) B (addT s k x) := by
  obtain ⟨h0, h3', h4, h5, h1, h23, h17, hr, ho, hl⟩ := h
  obtain ⟨l3, l4, l5⟩ := l
  have hk : ∀ j : Int, (j < 14 ∧ j ≠ 3) ∨ 414 ≤ j → addT s k x j = s j := by
    intro j hj
    unfold addT
    simp only [upI]
    grind (splits := 40)
  have hM : ∀ (a : Nat) (y : Int), (a ≠ B + 3 ∧ a ≠ B + 4 ∧ a ≠ B + 5 ∧ a ≠ B + 6 ∧ a ≠ B + 7 ∧ (a ≠ B ∨ y ≠ 2)) → up2 (up2 (up2 (up2 (up2 (up2 M (B + 3) (s 3) k) (B + 4) (s 3) x) (B + 5) (s 3) 0) (B + 6) (s 3) 0) (B + 7) (s 3) 0) B 2 (s 3 + 1) a y = M a y := by
    intro a y ha
    simp only [up2_rd]
    grind (splits := 40)
  have e3 : addT s k x 3 = s 3 + 1 := upI_eq
  refine ⟨?_, ?_, ?_, ?_, ?_, ?_, ?_, ?_, ?_, ?_⟩
  · rw [hk _ (by omega), hM _ _ (by omega)]; exact h0
  · rw [rd_eq, e3]
  · rw [hk _ (by omega), hM _ _ (by omega)]; exact h4
  · rw [hk _ (by omega), hM _ _ (by omega)]; exact h5
  · intro i g0 g1; rw [hk _ (by omega), hM _ _ (by omega)]; exact h1 i g0 g1
  · intro i g0 g1; rw [hk _ (by omega), hM _ _ (by omega)]; exact h23 i g0 g1
  · intro i g0 g1; rw [hk _ (by omega), hM _ _ (by omega)]; exact h17 i g0 g1
  · intro w hw i g0 g1
    rw [e3] at g1
    have hli := hr w hw i g0
    unfold addT
    simp only [up2_rd, upI]
    rcases (show w = 0 ∨ w = 1 ∨ w = 2 ∨ w = 3 ∨ w = 4 by omega) with rfl | rfl | rfl | rfl | rfl <;> grind (splits := 40)
  · intro w hw i g0 g1
    rw [hk 4 (by omega)] at g1
    rw [hk _ (by omega), hM _ _ (by omega)]; exact ho w hw i g0 g1
  · intro w hw i g0 g1
    rw [hk 5 (by omega)] at g1
    rw [hk _ (by omega), hM _ _ (by omega)]; exact hl w hw i g0 g1
theorem RepS_ord {M : AM} {B : Nat} {s : Int → Int} (h : RepS M B s) (l : Lim s) {x n v d : Int} (h4 : s 4 < 16) (h40 : 0 ≤ s 4) : RepS (up2 (up2 (up2 (up2 (up2 (up2 (up2 (up2 (up2 M (B + 9) (s 4) x) (B + 10) (s 4) n) (B + 11) (s 4) v) (B + 12) (s 4) d) (B + 13) (s 4) n) (B + 14) (s 4) 0) (B + 15) (s 4) 0) (B + 16) (s 4) 0) B 4 (s 4 + 1)) B (ordS s x n v d) := by
  obtain ⟨h0, h3, h4', h5, h1, h23, h17, hr, ho, hl⟩ := h
  obtain ⟨l3, l4, l5⟩ := l
  have hk : ∀ j : Int, (j < 414 ∧ j ≠ 4) ∨ 542 ≤ j → ordS s x n v d j = s j := by
    intro j hj
    unfold ordS
    simp only [upI]
    grind (splits := 40)
  have hM : ∀ (a : Nat) (y : Int), ((a < B + 9 ∨ B + 17 ≤ a) ∧ (a ≠ B ∨ y ≠ 4)) → up2 (up2 (up2 (up2 (up2 (up2 (up2 (up2 (up2 M (B + 9) (s 4) x) (B + 10) (s 4) n) (B + 11) (s 4) v) (B + 12) (s 4) d) (B + 13) (s 4) n) (B + 14) (s 4) 0) (B + 15) (s 4) 0) (B + 16) (s 4) 0) B 4 (s 4 + 1) a y = M a y := by
    intro a y ha
    simp only [up2_rd]
    grind (splits := 40)
  have e4 : ordS s x n v d 4 = s 4 + 1 := upI_eq
  refine ⟨?_, ?_, ?_, ?_, ?_, ?_, ?_, ?_, ?_, ?_⟩
  · rw [hk _ (by omega), hM _ _ (by omega)]; exact h0
  · rw [hk _ (by omega), hM _ _ (by omega)]; exact h3
  · rw [rd_eq, e4]
  · rw [hk _ (by omega), hM _ _ (by omega)]; exact h5
  · intro i g0 g1; rw [hk _ (by omega), hM _ _ (by omega)]; exact h1 i g0 g1
  · intro i g0 g1; rw [hk _ (by omega), hM _ _ (by omega)]; exact h23 i g0 g1
  · intro i g0 g1; rw [hk _ (by omega), hM _ _ (by omega)]; exact h17 i g0 g1
  · intro w hw i g0 g1
    rw [hk 3 (by omega)] at g1
    rw [hk _ (by omega), hM _ _ (by omega)]; exact hr w hw i g0 g1
  · intro w hw i g0 g1
    rw [e4] at g1
    have hli := ho w hw i g0
    unfold ordS
    simp only [up2_rd, upI]
    rcases (show w = 0 ∨ w = 1 ∨ w = 2 ∨ w = 3 ∨ w = 4 ∨ w = 5 ∨ w = 6 ∨ w = 7 by omega) with rfl | rfl | rfl | rfl | rfl | rfl | rfl | rfl <;> grind (splits := 40)
  · intro w hw i g0 g1
    rw [hk 5 (by omega)] at g1
    rw [hk _ (by omega), hM _ _ (by omega)]; exact hl w hw i g0 g1
theorem V_add {b : Int} {q s : Int → Int} (hV : Val b q s) {k l : Int} (h3 : s 3 < 80) (hk : 0 ≤ k ∧ k < q 0) (hl : 1 ≤ l ∧ l ≤ 200) : Val b q (addT s k l) := by
  have y3 := V_3 hV
  have y4 := V_4 hV
  have hk' : ∀ j : Int, (j < 14 ∧ j ≠ 3) ∨ 414 ≤ j → addT s k l j = s j := by
    intro j hj
    unfold addT
    simp only [upI]
    grind (splits := 40)
  have e3 : addT s k l 3 = s 3 + 1 := upI_eq
  refine ⟨hV.1, by rw [hk' _ (by omega)]; exact hV.2.1, by rw [hk' _ (by omega)]; exact V_1 hV, by rw [hk' _ (by omega)]; exact V_2 hV, by rw [e3]; omega, by rw [hk' _ (by omega)]; exact y4, by rw [hk' _ (by omega)]; exact V_5 hV, ?_, ?_, ?_, V_q hV⟩
  · intro i h0 h1
    rw [e3] at h1
    have hi := hV.2.2.2.2.2.2.2.1 i h0
    unfold RodV at hi ⊢
    unfold addT
    simp only [upI]
    grind (splits := 40)
  · intro o h0 h1
    rw [hk' _ (by omega)] at h1
    have hi := hV.2.2.2.2.2.2.2.2.1 o h0 h1
    unfold OrdV at hi ⊢
    rw [hk' _ (by omega), hk' _ (by omega), hk' _ (by omega), hk' _ (by omega), hk' _ (by omega), hk' _ (by omega), hk' _ (by omega), hk' _ (by omega)]
    exact hi
  · intro l h0 h1
    rw [hk' _ (by omega)]
    exact hV.2.2.2.2.2.2.2.2.2.1 l h0 h1
theorem V_ord {b : Int} {q s : Int → Int} (hV : Val b q s) {x n v d : Int} (h4 : s 4 < 16) (hx : 1 ≤ x ∧ x ≤ 200) (hn : 1 ≤ n ∧ n ≤ 9) (hv : 0 ≤ v ∧ v ≤ 99) (hd : 0 ≤ d ∧ d ≤ 999) : Val b q (ordS s x n v d) := by
  have y3 := V_3 hV
  have y4 := V_4 hV
  have hk' : ∀ j : Int, (j < 414 ∧ j ≠ 4) ∨ 542 ≤ j → ordS s x n v d j = s j := by
    intro j hj
    unfold ordS
    simp only [upI]
    grind (splits := 40)
  have e4 : ordS s x n v d 4 = s 4 + 1 := upI_eq
  refine ⟨hV.1, by rw [hk' _ (by omega)]; exact hV.2.1, by rw [hk' _ (by omega)]; exact V_1 hV, by rw [hk' _ (by omega)]; exact V_2 hV, by rw [hk' _ (by omega)]; exact y3, by rw [e4]; omega, by rw [hk' _ (by omega)]; exact V_5 hV, ?_, ?_, ?_, V_q hV⟩
  · intro i h0 h1
    rw [hk' _ (by omega)] at h1
    have hi := hV.2.2.2.2.2.2.2.1 i h0 h1
    unfold RodV at hi ⊢
    rw [hk' _ (by omega), hk' _ (by omega), hk' _ (by omega), hk' _ (by omega)]
    exact hi
  · intro o h0 h1
    rw [e4] at h1
    have hi := hV.2.2.2.2.2.2.2.2.1 o h0
    unfold OrdV at hi ⊢
    by_cases ho : o = s 4
    · subst ho
      have c : ∀ w : Int, 0 ≤ w → w < 8 → ordS s x n v d (414 + 8 * s 4 + w) = if w = 0 then x else if w = 1 then n else if w = 2 then v else if w = 3 then d else if w = 4 then n else 0 := by
        intro w h0 h1
        unfold ordS
        simp only [upI]
        grind (splits := 40)
      have c0 := c 0 (by omega) (by omega)
      rw [Int.add_zero] at c0
      rw [c0, c 1 (by omega) (by omega), c 2 (by omega) (by omega), c 3 (by omega) (by omega), c 4 (by omega) (by omega), c 5 (by omega) (by omega), c 6 (by omega) (by omega), c 7 (by omega) (by omega)]
      simp
      omega
    · have c : ∀ w : Int, 0 ≤ w → w < 8 → ordS s x n v d (414 + 8 * o + w) = s (414 + 8 * o + w) := by
        intro w h0 h1
        unfold ordS
        simp only [upI]
        grind (splits := 40)
      have c0 := c 0 (by omega) (by omega)
      rw [Int.add_zero] at c0
      rw [c0, c 1 (by omega) (by omega), c 2 (by omega) (by omega), c 3 (by omega) (by omega), c 4 (by omega) (by omega), c 5 (by omega) (by omega), c 6 (by omega) (by omega), c 7 (by omega) (by omega)]
      exact hi (by omega)
  · intro l h0 h1
    rw [hk' _ (by omega)]
    exact hV.2.2.2.2.2.2.2.2.2.1 l h0 h1
theorem V_acc {b : Int} {q s : Int → Int} (hV : Val b q s) {k v : Int} (hk : 6 ≤ k ∧ k < 14) : Val b q (upI s k v) := by
  have y3 := V_3 hV
  have y4 := V_4 hV
  have hk' : ∀ j : Int, j ≠ k → upI s k v j = s j := fun j hj => upI_ne hj
  refine ⟨hV.1, by rw [hk' _ (by omega)]; exact hV.2.1, by rw [hk' _ (by omega)]; exact V_1 hV, by rw [hk' _ (by omega)]; exact V_2 hV, by rw [hk' _ (by omega)]; exact y3, by rw [hk' _ (by omega)]; exact y4, by rw [hk' _ (by omega)]; exact V_5 hV, ?_, ?_, ?_, V_q hV⟩
  · intro i h0 h1
    rw [hk' _ (by omega)] at h1
    have hi := hV.2.2.2.2.2.2.2.1 i h0 h1
    unfold RodV at hi ⊢
    rw [hk' _ (by omega), hk' _ (by omega), hk' _ (by omega), hk' _ (by omega)]
    exact hi
  · intro o h0 h1
    rw [hk' _ (by omega)] at h1
    have hi := hV.2.2.2.2.2.2.2.2.1 o h0 h1
    unfold OrdV at hi ⊢
    rw [hk' _ (by omega), hk' _ (by omega), hk' _ (by omega), hk' _ (by omega), hk' _ (by omega), hk' _ (by omega), hk' _ (by omega), hk' _ (by omega)]
    exact hi
  · intro l h0 h1
    rw [hk' _ (by omega)]
    exact hV.2.2.2.2.2.2.2.2.2.1 l h0 h1
theorem o15 : am_oc 15 = 5 := by decide +kernel
theorem pi15_36 : am_pfi 15 5 36 5 2 = true := by decide +kernel
theorem rt15 : am_rt 15 = some .int := by decide +kernel
theorem o16 : am_oc 16 = 5 := by decide +kernel
theorem pi16_39 : am_pfi 16 5 39 5 4 = true := by decide +kernel
theorem rt16 : am_rt 16 = some .int := by decide +kernel
theorem o50 : am_oc 50 = 8 := by decide +kernel
theorem gr8_137 : am_gfr 8 137 4 1 = true := by decide +kernel
theorem m8_140 : am_mlk 8 140 0 15 = true := by decide +kernel
theorem na15 : am_na 15 = 2 := by decide +kernel
theorem nl15 : am_nL 15 = 4 := by decide +kernel
theorem pd15 : ∀ a0 a1 a2 : AV, am_pad 15 [a0, a1, a2] = [a0, a1, a2, aU] := by intros; unfold am_pad; rw [nl15]; rfl
theorem ln15 : 3 ≤ am_nL 15 := by rw [nl15]; decide
theorem rt50 : am_rt 50 = some .int := by decide +kernel
theorem t15 {g : AG} {M : AM} {B : Nat} {s q : Int → Int} {b : Int} {x1 x2 : Int} (hSB : ShState g B) (hRB : RepS M B s) (hV : Val b q s) (hQ : ValQ q) (h3 : s 3 < 80) :
    Ok 0 15 0 [aR B, aI x1, aI x2, aU] [] g M (Rt (some (aI (s 3))) g (fun M9 => RepS M9 B (addT s x1 x2) ∧ Wr B 24 M M9)) := by
  have ys3 : 0 ≤ s 3 ∧ s 3 ≤ 80 := V_3 hV
  have ys4 : 0 ≤ s 4 ∧ s 4 ≤ 16 := V_4 hV
  have yq0 : 0 ≤ q 0 ∧ q 0 ≤ 4 := Q_0 hQ
  have yq1 : 0 ≤ q 1 ∧ q 1 ≤ 6 := Q_1 hQ
  refine ok_aloadn (pc' := 1) i15_0 rfl rfl <| ok_getfi (v := (s 3)) (pc' := 4) i15_1 o15 gi5_36 (ShState_k0 hSB) (RepS_f2 hRB) rfl <| ok_bipush (v := 80) (pc' := 6) i15_4 rfl rfl <| ?_
  refine ok_clt (pc1 := 11) (pc2 := 9) i15_6 (by omega) rfl rfl (fun h1 => ?_) (fun h9 => by exfalso; omega)
  refine ok_aloadn (pc' := 12) i15_11 rfl rfl <| ok_getfi (v := (s 3)) (pc' := 15) i15_12 o15 gi5_36 (ShState_k0 hSB) (RepS_f2 hRB) rfl <| ok_istoren (pc' := 16) (ls' := [aR B, aI x1, aI x2, aI (s 3)]) i15_15 (bt rfl) rfl rfl <| ok_aloadn (pc' := 17) i15_16 rfl rfl <| ok_getfr (r := (B + 2)) (pc' := 20) i15_17 o15 gr5_17 (ShState_k0 hSB) (ShState_r3 hSB) rfl <| ok_iconst (pc' := 21) i15_20 rfl <| ok_aaload (r := (B + 3)) (pc' := 22) i15_21 (ShState_k2 hSB) (by decide) (ShState_l2 hSB) (by decide) (ShState_e2_0 hSB) rfl <| ok_iloadn (pc' := 23) i15_22 rfl rfl <| ?_
  refine ok_iloadn (pc' := 24) i15_23 rfl rfl <| ok_iastore (pc' := 25) i15_24 (ShState_k3 hSB) (ShState_l3 hSB) (by omega) rfl <| ok_aloadn (pc' := 26) i15_25 rfl rfl <| ok_getfr (r := (B + 2)) (pc' := 29) i15_26 o15 gr5_17 (ShState_k0 hSB) (ShState_r3 hSB) rfl <| ok_iconst (pc' := 30) i15_29 rfl <| ok_aaload (r := (B + 4)) (pc' := 31) i15_30 (ShState_k2 hSB) (by decide) (ShState_l2 hSB) (by decide) (ShState_e2_1 hSB) rfl <| ok_iloadn (pc' := 32) i15_31 rfl rfl <| ok_iloadn (pc' := 33) i15_32 rfl rfl <| ?_
  refine ok_iastore (pc' := 34) i15_33 (ShState_k4 hSB) (ShState_l4 hSB) (by omega) rfl <| ok_aloadn (pc' := 35) i15_34 rfl rfl <| ok_getfr (r := (B + 2)) (pc' := 38) i15_35 o15 gr5_17 (ShState_k0 hSB) (ShState_r3 hSB) rfl <| ok_iconst (pc' := 39) i15_38 rfl <| ok_aaload (r := (B + 5)) (pc' := 40) i15_39 (ShState_k2 hSB) (by decide) (ShState_l2 hSB) (by decide) (ShState_e2_2 hSB) rfl <| ok_iloadn (pc' := 41) i15_40 rfl rfl <| ok_iconst (pc' := 42) i15_41 rfl <| ok_iastore (pc' := 43) i15_42 (ShState_k5 hSB) (ShState_l5 hSB) (by omega) rfl <| ?_
  refine ok_aloadn (pc' := 44) i15_43 rfl rfl <| ok_getfr (r := (B + 2)) (pc' := 47) i15_44 o15 gr5_17 (ShState_k0 hSB) (ShState_r3 hSB) rfl <| ok_iconst (pc' := 48) i15_47 rfl <| ok_aaload (r := (B + 6)) (pc' := 49) i15_48 (ShState_k2 hSB) (by decide) (ShState_l2 hSB) (by decide) (ShState_e2_3 hSB) rfl <| ok_iloadn (pc' := 50) i15_49 rfl rfl <| ok_iconst (pc' := 51) i15_50 rfl <| ok_iastore (pc' := 52) i15_51 (ShState_k6 hSB) (ShState_l6 hSB) (by omega) rfl <| ok_aloadn (pc' := 53) i15_52 rfl rfl <| ?_
  refine ok_getfr (r := (B + 2)) (pc' := 56) i15_53 o15 gr5_17 (ShState_k0 hSB) (ShState_r3 hSB) rfl <| ok_iconst (pc' := 57) i15_56 rfl <| ok_aaload (r := (B + 7)) (pc' := 58) i15_57 (ShState_k2 hSB) (by decide) (ShState_l2 hSB) (by decide) (ShState_e2_4 hSB) rfl <| ok_iloadn (pc' := 59) i15_58 rfl rfl <| ok_iconst (pc' := 60) i15_59 rfl <| ok_iastore (pc' := 61) i15_60 (ShState_k7 hSB) (ShState_l7 hSB) (by omega) rfl <| ok_aloadn (pc' := 62) i15_61 rfl rfl <| ok_dup (pc' := 63) i15_62 rfl rfl <| ?_
  refine ok_getfi (v := (s 3)) (pc' := 66) i15_63 o15 gi5_36 (ShState_k0 hSB) (rd_na (by omega) (rd_na (by omega) (rd_na (by omega) (rd_na (by omega) (rd_na (by omega) (RepS_f2 hRB)))))) rfl <| ok_iconst (pc' := 67) i15_66 rfl <| ok_iadd (v := ((s 3) + 1)) (pc' := 68) i15_67 rfl rfl <| ok_putfi (pc' := 71) i15_68 o15 pi15_36 (ShState_k0 hSB) rfl <| ok_iloadn (pc' := 72) i15_71 rfl rfl <| ok_ireti i15_72 rt15 <| ?_
  exact ⟨rfl, rfl, RepS_add hRB (V_lim hV) (by omega) (by omega), (Wr.up (Wr.up (Wr.up (Wr.up (Wr.up (Wr.up Wr.rfl (by omega)) (by omega)) (by omega)) (by omega)) (by omega)) (by omega))⟩
theorem t16 {g : AG} {M : AM} {B : Nat} {s q : Int → Int} {b : Int} {x1 x2 x3 x4 : Int} (hSB : ShState g B) (hRB : RepS M B s) (hV : Val b q s) (hQ : ValQ q) (h4 : s 4 < 16) :
    Ok 0 16 0 [aR B, aI x1, aI x2, aI x3, aI x4, aU] [] g M (Rt (some (aI (s 4))) g (fun M9 => RepS M9 B (ordS s x1 x2 x3 x4) ∧ Wr B 24 M M9)) := by
  have ys3 : 0 ≤ s 3 ∧ s 3 ≤ 80 := V_3 hV
  have ys4 : 0 ≤ s 4 ∧ s 4 ≤ 16 := V_4 hV
  have yq0 : 0 ≤ q 0 ∧ q 0 ≤ 4 := Q_0 hQ
  have yq1 : 0 ≤ q 1 ∧ q 1 ≤ 6 := Q_1 hQ
  refine ok_aloadn (pc' := 1) i16_0 rfl rfl <| ok_getfi (v := (s 4)) (pc' := 4) i16_1 o16 gi5_39 (ShState_k0 hSB) (RepS_f4 hRB) rfl <| ok_bipush (v := 16) (pc' := 6) i16_4 rfl rfl <| ?_
  refine ok_clt (pc1 := 11) (pc2 := 9) i16_6 (by omega) rfl rfl (fun h1 => ?_) (fun h9 => by exfalso; omega)
  refine ok_aloadn (pc' := 12) i16_11 rfl rfl <| ok_getfi (v := (s 4)) (pc' := 15) i16_12 o16 gi5_39 (ShState_k0 hSB) (RepS_f4 hRB) rfl <| ok_istore (pc' := 17) (ls' := [aR B, aI x1, aI x2, aI x3, aI x4, aI (s 4)]) i16_15 (bt rfl) rfl rfl <| ok_aloadn (pc' := 18) i16_17 rfl rfl <| ok_getfr (r := (B + 8)) (pc' := 21) i16_18 o16 gr5_20 (ShState_k0 hSB) (ShState_r5 hSB) rfl <| ok_iconst (pc' := 22) i16_21 rfl <| ok_aaload (r := (B + 9)) (pc' := 23) i16_22 (ShState_k8 hSB) (by decide) (ShState_l8 hSB) (by decide) (ShState_e8_0 hSB) rfl <| ok_iload (pc' := 25) i16_23 rfl rfl <| ?_
  refine ok_iloadn (pc' := 26) i16_25 rfl rfl <| ok_iastore (pc' := 27) i16_26 (ShState_k9 hSB) (ShState_l9 hSB) (by omega) rfl <| ok_aloadn (pc' := 28) i16_27 rfl rfl <| ok_getfr (r := (B + 8)) (pc' := 31) i16_28 o16 gr5_20 (ShState_k0 hSB) (ShState_r5 hSB) rfl <| ok_iconst (pc' := 32) i16_31 rfl <| ok_aaload (r := (B + 10)) (pc' := 33) i16_32 (ShState_k8 hSB) (by decide) (ShState_l8 hSB) (by decide) (ShState_e8_1 hSB) rfl <| ok_iload (pc' := 35) i16_33 rfl rfl <| ok_iloadn (pc' := 36) i16_35 rfl rfl <| ?_
  refine ok_iastore (pc' := 37) i16_36 (ShState_k10 hSB) (ShState_l10 hSB) (by omega) rfl <| ok_aloadn (pc' := 38) i16_37 rfl rfl <| ok_getfr (r := (B + 8)) (pc' := 41) i16_38 o16 gr5_20 (ShState_k0 hSB) (ShState_r5 hSB) rfl <| ok_iconst (pc' := 42) i16_41 rfl <| ok_aaload (r := (B + 11)) (pc' := 43) i16_42 (ShState_k8 hSB) (by decide) (ShState_l8 hSB) (by decide) (ShState_e8_2 hSB) rfl <| ok_iload (pc' := 45) i16_43 rfl rfl <| ok_iloadn (pc' := 46) i16_45 rfl rfl <| ok_iastore (pc' := 47) i16_46 (ShState_k11 hSB) (ShState_l11 hSB) (by omega) rfl <| ?_
  refine ok_aloadn (pc' := 48) i16_47 rfl rfl <| ok_getfr (r := (B + 8)) (pc' := 51) i16_48 o16 gr5_20 (ShState_k0 hSB) (ShState_r5 hSB) rfl <| ok_iconst (pc' := 52) i16_51 rfl <| ok_aaload (r := (B + 12)) (pc' := 53) i16_52 (ShState_k8 hSB) (by decide) (ShState_l8 hSB) (by decide) (ShState_e8_3 hSB) rfl <| ok_iload (pc' := 55) i16_53 rfl rfl <| ok_iload (pc' := 57) i16_55 rfl rfl <| ok_iastore (pc' := 58) i16_57 (ShState_k12 hSB) (ShState_l12 hSB) (by omega) rfl <| ok_aloadn (pc' := 59) i16_58 rfl rfl <| ?_
  refine ok_getfr (r := (B + 8)) (pc' := 62) i16_59 o16 gr5_20 (ShState_k0 hSB) (ShState_r5 hSB) rfl <| ok_iconst (pc' := 63) i16_62 rfl <| ok_aaload (r := (B + 13)) (pc' := 64) i16_63 (ShState_k8 hSB) (by decide) (ShState_l8 hSB) (by decide) (ShState_e8_4 hSB) rfl <| ok_iload (pc' := 66) i16_64 rfl rfl <| ok_iloadn (pc' := 67) i16_66 rfl rfl <| ok_iastore (pc' := 68) i16_67 (ShState_k13 hSB) (ShState_l13 hSB) (by omega) rfl <| ok_aloadn (pc' := 69) i16_68 rfl rfl <| ok_getfr (r := (B + 8)) (pc' := 72) i16_69 o16 gr5_20 (ShState_k0 hSB) (ShState_r5 hSB) rfl <| ?_
  refine ok_iconst (pc' := 73) i16_72 rfl <| ok_aaload (r := (B + 14)) (pc' := 74) i16_73 (ShState_k8 hSB) (by decide) (ShState_l8 hSB) (by decide) (ShState_e8_5 hSB) rfl <| ok_iload (pc' := 76) i16_74 rfl rfl <| ok_iconst (pc' := 77) i16_76 rfl <| ok_iastore (pc' := 78) i16_77 (ShState_k14 hSB) (ShState_l14 hSB) (by omega) rfl <| ok_aloadn (pc' := 79) i16_78 rfl rfl <| ok_getfr (r := (B + 8)) (pc' := 82) i16_79 o16 gr5_20 (ShState_k0 hSB) (ShState_r5 hSB) rfl <| ok_bipush (v := 6) (pc' := 84) i16_82 rfl rfl <| ?_
  refine ok_aaload (r := (B + 15)) (pc' := 85) i16_84 (ShState_k8 hSB) (by decide) (ShState_l8 hSB) (by decide) (ShState_e8_6 hSB) rfl <| ok_iload (pc' := 87) i16_85 rfl rfl <| ok_iconst (pc' := 88) i16_87 rfl <| ok_iastore (pc' := 89) i16_88 (ShState_k15 hSB) (ShState_l15 hSB) (by omega) rfl <| ok_aloadn (pc' := 90) i16_89 rfl rfl <| ok_getfr (r := (B + 8)) (pc' := 93) i16_90 o16 gr5_20 (ShState_k0 hSB) (ShState_r5 hSB) rfl <| ok_bipush (v := 7) (pc' := 95) i16_93 rfl rfl <| ok_aaload (r := (B + 16)) (pc' := 96) i16_95 (ShState_k8 hSB) (by decide) (ShState_l8 hSB) (by decide) (ShState_e8_7 hSB) rfl <| ?_
  refine ok_iload (pc' := 98) i16_96 rfl rfl <| ok_iconst (pc' := 99) i16_98 rfl <| ok_iastore (pc' := 100) i16_99 (ShState_k16 hSB) (ShState_l16 hSB) (by omega) rfl <| ok_aloadn (pc' := 101) i16_100 rfl rfl <| ok_dup (pc' := 102) i16_101 rfl rfl <| ok_getfi (v := (s 4)) (pc' := 105) i16_102 o16 gi5_39 (ShState_k0 hSB) (rd_na (by omega) (rd_na (by omega) (rd_na (by omega) (rd_na (by omega) (rd_na (by omega) (rd_na (by omega) (rd_na (by omega) (rd_na (by omega) (RepS_f4 hRB))))))))) rfl <| ok_iconst (pc' := 106) i16_105 rfl <| ok_iadd (v := ((s 4) + 1)) (pc' := 107) i16_106 rfl rfl <| ?_
  refine ok_putfi (pc' := 110) i16_107 o16 pi16_39 (ShState_k0 hSB) rfl <| ok_iload (pc' := 112) i16_110 rfl rfl <| ok_ireti i16_112 rt16 <| ?_
  exact ⟨rfl, rfl, RepS_ord hRB (V_lim hV) (by omega) (by omega), (Wr.up (Wr.up (Wr.up (Wr.up (Wr.up (Wr.up (Wr.up (Wr.up (Wr.up Wr.rfl (by omega)) (by omega)) (by omega)) (by omega)) (by omega)) (by omega)) (by omega)) (by omega)) (by omega))⟩
theorem t50 {g : AG} {M : AM} {W P B : Nat} {q s : Int → Int} {b : Int} {x1 : Int} (hSW : ShWorks g W P B) (hSP : ShPlan g P) (hSB : ShState g B) (hRP : RepP M P q) (hRB : RepS M B s) (hQ : ValQ q) (hV : Val b q s) (h1 : 0 ≤ x1 ∧ x1 < q 0) (h3 : s 3 < 80) (h9 : P + 11 ≤ B ∨ B + 24 ≤ P) :
    Ok 1 50 0 [aR W, aI x1, aU] [] g M (Rt (some (aI (s 3))) g (fun M9 => RepS M9 B (addT (upI s 6 (s 6 + ((q (2 + x1)) * (q (6 + x1))))) x1 (q (2 + x1))) ∧ Wr B 24 M M9)) := by
  have yq0 : 0 ≤ q 0 ∧ q 0 ≤ 4 := Q_0 hQ
  have yq1 : 0 ≤ q 1 ∧ q 1 ≤ 6 := Q_1 hQ
  have ys3 : 0 ≤ s 3 ∧ s 3 ≤ 80 := V_3 hV
  have ys4 : 0 ≤ s 4 ∧ s 4 ≤ 16 := V_4 hV
  refine ok_aloadn (pc' := 1) i50_0 rfl rfl <| ok_getfr (r := P) (pc' := 4) i50_1 o50 gr8_9 (ShWorks_k0 hSW) (ShWorks_r0 hSW) rfl <| ok_getfr (r := (P + 1)) (pc' := 7) i50_4 o50 gr8_137 (ShPlan_k0 hSP) (ShPlan_r1 hSP) rfl <| ok_iloadn (pc' := 8) i50_7 rfl rfl <| ?_
  have z1 : 1 ≤ q (2 + x1) ∧ q (2 + x1) ≤ 200 := Q_2 hQ (i := x1) (by omega) (by omega)
  refine ok_iaload (v := (q (2 + x1))) (pc' := 9) i50_8 (ShPlan_k1 hSP) (by decide) (ShPlan_l1 hSP) (by omega) (RepP_1 hRP (by omega) (by omega)) rfl <| ok_istoren (pc' := 10) (ls' := [aR W, aI x1, aI (q (2 + x1))]) i50_9 (bt rfl) rfl rfl <| ok_aloadn (pc' := 11) i50_10 rfl rfl <| ok_getfr (r := B) (pc' := 14) i50_11 o50 gr8_15 (ShWorks_k0 hSW) (ShWorks_r1 hSW) rfl <| ok_getfr (r := (B + 23)) (pc' := 17) i50_14 o50 gr8_70 (ShState_k0 hSB) (ShState_r9 hSB) rfl <| ok_iconst (pc' := 18) i50_17 rfl <| ok_dup2 (pc' := 19) i50_18 ⟨rfl, rfl⟩ rfl <| ok_iaload (v := (s 6)) (pc' := 20) i50_19 (ShState_k23 hSB) (by decide) (ShState_l23 hSB) (by decide) (RepS_23_0 hRB) rfl <| ?_
  refine ok_iloadn (pc' := 21) i50_20 rfl rfl <| ok_aloadn (pc' := 22) i50_21 rfl rfl <| ok_getfr (r := P) (pc' := 25) i50_22 o50 gr8_9 (ShWorks_k0 hSW) (ShWorks_r0 hSW) rfl <| ok_getfr (r := (P + 2)) (pc' := 28) i50_25 o50 gr8_19 (ShPlan_k0 hSP) (ShPlan_r2 hSP) rfl <| ok_iloadn (pc' := 29) i50_28 rfl rfl <| ?_
  have z2 : 1 ≤ q (6 + x1) ∧ q (6 + x1) ≤ 99 := Q_6 hQ (i := x1) (by omega) (by omega)
  refine ok_iaload (v := (q (6 + x1))) (pc' := 30) i50_29 (ShPlan_k2 hSP) (by decide) (ShPlan_l2 hSP) (by omega) (RepP_2 hRP (by omega) (by omega)) rfl <| ok_imul (v := ((q (2 + x1)) * (q (6 + x1)))) (pc' := 31) i50_30 rfl rfl <| ok_iadd (v := ((s 6) + ((q (2 + x1)) * (q (6 + x1))))) (pc' := 32) i50_31 rfl rfl <| ok_iastore (pc' := 33) i50_32 (ShState_k23 hSB) (ShState_l23 hSB) (by decide) rfl <| ok_aloadn (pc' := 34) i50_33 rfl rfl <| ok_getfr (r := B) (pc' := 37) i50_34 o50 gr8_15 (ShWorks_k0 hSW) (ShWorks_r1 hSW) rfl <| ok_iloadn (pc' := 38) i50_37 rfl rfl <| ok_iloadn (pc' := 39) i50_38 rfl rfl <| ?_
  obtain ⟨M8, hM8⟩ : ∃ u9 : AM, u9 = (up2 M (B + 23) 0 ((s 6) + ((q (2 + x1)) * (q (6 + x1))))) := ⟨_, rfl⟩
  rw [← hM8]
  have hR8 : RepS M8 B (upI s 6 ((s 6) + ((q (2 + x1)) * (q (6 + x1))))) := by rw [hM8]; exact (RL_w23 (i := 0) (RL0 hRB) (V_lim hV) (by omega) (by omega)).1
  have hV8 : Val b q (upI s 6 ((s 6) + ((q (2 + x1)) * (q (6 + x1))))) := V_acc hV (by omega)
  have e38 : (upI s 6 ((s 6) + ((q (2 + x1)) * (q (6 + x1))))) 3 = s 3 := upI_ne (by omega)
  refine ok_cn (pc' := 42) (d0 := 0) i50_39 rfl (cl_v o50 m8_140 na15 rfl rfl (bt rfl) (bt rfl) rfl (by rw [ShState_k0 hSB, o15])) ln15 (pd15 (aR B) (aI x1) (aI (q (2 + x1)))) (by omega) (t15 (x1 := x1) (x2 := (q (2 + x1))) hSB hR8 hV8 hQ (by omega)) rfl (fun M1 p2 => ?_)
  refine ok_ireti i50_42 rt50 <| ?_
  exact ⟨by rw [e38], rfl, p2.1, Wr.trans (by rw [hM8]; exact Wr.up Wr.rfl (by omega)) p2.2⟩

