/-! PACKING: the class (by program, wip/gen) -/
/-! THE BEST USE OF A ROD -/
def comb (a c : Int) : Int := if c = -1 then a else if a = -1 then c + 1 else if c + 1 < a then c + 1 else a
def offF (m u : Int) (F : Int → Int) : Int → Int := fun k => if u ≤ k ∧ k ≤ m then comb (F k) (F (k - u)) else F k
def packI : Int → Int := fun k => if k = 0 then 0 else -1
def packO (s : Int → Int) (m o : Int) (F : Int → Int) : Int → Int := itv (fun _ F => offF m (s (414 + (8 * o)) + s 1) F) F 0 (s ((414 + (8 * o)) + 4)).toNat
def packS (s : Int → Int) (m : Int) : Int → Int := itv (fun o F => packO s m o F) packI 0 (s 4).toNat
def pickF (h : Int) (F : Int → Int) (k : Int) (a : Int × Int) : Int × Int := if F k = -1 then a else if max 0 (h - k) < a.1 then (max 0 (h - k), F k) else if max 0 (h - k) ≠ a.1 then a else if F k < a.2 then (max 0 (h - k), F k) else a
def pickS (h m : Int) (F : Int → Int) : Int × Int := itv (pickF h F) (h, 0) 1 m.toNat
def bestS (s : Int → Int) (r : Int) : Int × Int := pickS (s (94 + r)) (s (94 + r) + s 1) (packS s (s (94 + r) + s 1))
def cl (x : Int) : Int := if x = -1 then 1000 else x
def Bd (m n : Int) (F : Int → Int) : Prop := ∀ k : Int, 0 ≤ k → k ≤ m → -1 ≤ F k ∧ F k ≤ n
theorem cl_rg {x : Int} (h : -1 ≤ x ∧ x ≤ 200) : 0 ≤ cl x ∧ cl x ≤ 1000 ∧ (cl x < 1000 ↔ x ≠ -1) := by
  unfold cl
  split <;> omega
theorem cl_comb {a c : Int} (ha : -1 ≤ a ∧ a ≤ 200) (hc : -1 ≤ c ∧ c ≤ 200) : min (cl a) (cl c + 1) = cl (comb a c) := by
  unfold cl comb
  grind
theorem off_bd {m u n : Int} {F : Int → Int} (h : Bd m n F) (hu : 1 ≤ u) (hn : 0 ≤ n) : Bd m (n + 1) (offF m u F) := by
  intro k h0 h1
  have h2 := h k h0 h1
  unfold offF
  split
  · have h3 := h (k - u) (by omega) (by omega)
    unfold comb
    grind
  · omega
theorem packO_bd {b : Int} {q s : Int → Int} (hV : Val b q s) {m o n : Int} {F : Int → Int} (ho : 0 ≤ o ∧ o < s 4) (h : Bd m n F) (hn : 0 ≤ n) : Bd m (n + 9) (packO s m o F) := by
  have z4 := V_o4 hV ho.1 ho.2
  have z0 := V_o0 hV ho.1 ho.2
  have z1 := V_1 hV
  have h' := itv_inv (f := fun (_ : Int) F => offF m (s (414 + (8 * o)) + s 1) F) (a0 := F) (lo := 0) (fun i G => Bd m (n + i) G) (by rw [Int.add_zero]; exact h) (s ((414 + (8 * o)) + 4)).toNat (fun i G h0 h1 h2 => by
    rw [show n + (i + 1) = n + i + 1 by omega]
    exact off_bd h2 (by omega) (by omega))
  intro k h0 h1
  have h2 := h' k h0 h1
  unfold packO
  omega
theorem packS_bd {b : Int} {q s : Int → Int} (hV : Val b q s) {m : Int} : Bd m 144 (packS s m) := by
  have y4 := V_4 hV
  have h' := itv_inv (f := fun o F => packO s m o F) (a0 := packI) (lo := 0) (fun i G => Bd m (9 * i) G) (by intro k h0 h1; unfold packI; split <;> omega) (s 4).toNat (fun i G h0 h1 h2 => by
    rw [show 9 * (i + 1) = 9 * i + 9 by omega]
    exact packO_bd hV ⟨h0, by omega⟩ h2 (by omega))
  intro k h0 h1
  have h2 := h' k h0 h1
  unfold packS
  omega
theorem rt61 : am_rt 61 = none := by decide +kernel
theorem gr2_9 : am_gfr 2 9 2 1 = true := by decide +kernel
theorem o61 : am_oc 61 = 2 := by decide +kernel
theorem m2_24 : am_mlk 2 24 7 0 = true := by decide +kernel
theorem o62 : am_oc 62 = 2 := by decide +kernel
theorem m2_51 : am_mlk 2 51 6 0 = true := by decide +kernel
theorem gi2_45 : am_gfi 2 45 2 2 = true := by decide +kernel
theorem pi62_45 : am_pfi 62 2 45 2 2 = true := by decide +kernel
theorem pi62_48 : am_pfi 62 2 48 2 3 = true := by decide +kernel
theorem gi2_48 : am_gfi 2 48 2 3 = true := by decide +kernel
theorem rt62 : am_rt 62 = none := by decide +kernel
theorem gr2_15 : am_gfr 2 15 2 0 = true := by decide +kernel
theorem o60 : am_oc 60 = 2 := by decide +kernel
theorem gr2_34 : am_gfr 2 34 5 5 = true := by decide +kernel
theorem gr2_19 : am_gfr 2 19 5 1 = true := by decide +kernel
theorem m2_38 : am_mlk 2 38 0 61 = true := by decide +kernel
theorem na61 : am_na 61 = 2 := by decide +kernel
theorem nl61 : am_nL 61 = 4 := by decide +kernel
theorem pd61 : ∀ a0 a1 a2 : AV, am_pad 61 [a0, a1, a2] = [a0, a1, a2, aU] := by intros; unfold am_pad; rw [nl61]; rfl
theorem ln61 : 3 ≤ am_nL 61 := by rw [nl61]; decide
theorem gi2_30 : am_gfi 2 30 5 4 = true := by decide +kernel
theorem m2_42 : am_mlk 2 42 0 62 = true := by decide +kernel
theorem na62 : am_na 62 = 2 := by decide +kernel
theorem nl62 : am_nL 62 = 5 := by decide +kernel
theorem pd62 : ∀ a0 a1 a2 : AV, am_pad 62 [a0, a1, a2] = [a0, a1, a2, aU, aU] := by intros; unfold am_pad; rw [nl62]; rfl
theorem ln62 : 3 ≤ am_nL 62 := by rw [nl62]; decide
theorem rt60 : am_rt 60 = none := by decide +kernel
theorem t61 {g : AG} {M : AM} {K B : Nat} {F : Int → Int} {x1 x2 : Int} (hSK : ShPacking g K B) (hF : ∀ k : Int, 0 ≤ k → k ≤ x2 → M (K + 1) k = cl (F k)) (hB : Bd x2 200 F) (h1 : 1 ≤ x1 ∧ x1 ≤ 209) (h2 : 0 ≤ x2 ∧ x2 ≤ 209) :
    Ok 0 61 0 [aR K, aI x1, aI x2, aU] [] g M (Rt none g (fun M9 => (∀ k : Int, 0 ≤ k → k ≤ x2 → M9 (K + 1) k = cl (offF x2 x1 F k)) ∧ ∀ c, c ≠ K + 1 → M9 c = M c)) := by
  refine ok_iloadn (pc' := 1) i61_0 rfl rfl <| ok_istoren (pc' := 2) (ls' := [aR K, aI x1, aI x2, aI x2]) i61_1 (bt rfl) rfl rfl <| ?_
  refine ok_while (σ := Int) (fun x3 ls M9 => (x3 ≤ x2 ∧ 0 ≤ x3) ∧ (∀ k : Int, x3 < k → k ≤ x2 → M9 (K + 1) k = cl (offF x2 x1 F k)) ∧ (∀ k : Int, 0 ≤ k → k ≤ x3 → M9 (K + 1) k = cl (F k)) ∧ (∀ c, c ≠ K + 1 → M9 c = M c) ∧ ls = [aR K, aI x1, aI x2, aI x3]) (fun x3 => (x3 - x1 + 1).toNat) ?_ x2 _ M ⟨by omega, fun k h8 h9 => by omega, fun k h8 h9 => hF k h8 h9, fun _ _ => rfl, rfl⟩
  rintro x3 ls M9 ⟨h3, hA8, hB8, hN, rfl⟩ ih
  refine ok_iloadn (pc' := 3) i61_2 rfl rfl <| ok_iloadn (pc' := 4) i61_3 rfl rfl <| ?_
  refine ok_clt (pc1 := 38) (pc2 := 7) i61_4 (by omega) rfl rfl (fun h1 => ?_) (fun h1 => ?_)
  · refine ok_vret i61_38 rt61 <| ?_
    refine ⟨rfl, rfl, fun k h8 h9 => ?_, hN⟩
    by_cases hk : x3 < k
    · exact hA8 k hk h9
    · rw [hB8 k h8 (by omega)]
      unfold offF
      rw [if_neg (by omega)]
  · refine ok_aloadn (pc' := 8) i61_7 rfl rfl <| ok_getfr (r := (K + 1)) (pc' := 11) i61_8 o61 gr2_9 (ShPacking_k0 hSK) (ShPacking_r1 hSK) rfl <| ok_iloadn (pc' := 12) i61_11 rfl rfl <| ok_aloadn (pc' := 13) i61_12 rfl rfl <| ok_getfr (r := (K + 1)) (pc' := 16) i61_13 o61 gr2_9 (ShPacking_k0 hSK) (ShPacking_r1 hSK) rfl <| ok_iloadn (pc' := 17) i61_16 rfl rfl <| ?_
    have z1 : 0 ≤ (cl (F x3)) ∧ (cl (F x3)) ≤ 1000 := by have h8 := cl_rg (hB x3 (by omega) (by omega)); omega
    refine ok_iaload (v := (cl (F x3))) (pc' := 18) i61_17 (ShPacking_k1 hSK) (by decide) (ShPacking_l1 hSK) (by omega) (hB8 x3 (by omega) (by omega)) rfl <| ok_aloadn (pc' := 19) i61_18 rfl rfl <| ok_getfr (r := (K + 1)) (pc' := 22) i61_19 o61 gr2_9 (ShPacking_k0 hSK) (ShPacking_r1 hSK) rfl <| ok_iloadn (pc' := 23) i61_22 rfl rfl <| ok_iloadn (pc' := 24) i61_23 rfl rfl <| ok_isub (v := (x3 - x1)) (pc' := 25) i61_24 rfl rfl <| ?_
    have z2 : 0 ≤ (cl (F (x3 - x1))) ∧ (cl (F (x3 - x1))) ≤ 1000 := by have h8 := cl_rg (hB (x3 - x1) (by omega) (by omega)); omega
    refine ok_iaload (v := (cl (F (x3 - x1)))) (pc' := 26) i61_25 (ShPacking_k1 hSK) (by decide) (ShPacking_l1 hSK) (by omega) (hB8 (x3 - x1) (by omega) (by omega)) rfl <| ok_iconst (pc' := 27) i61_26 rfl <| ok_iadd (v := ((cl (F (x3 - x1))) + 1)) (pc' := 28) i61_27 rfl rfl <| ok_min (v := (min (cl (F x3)) ((cl (F (x3 - x1))) + 1))) (pc' := 31) i61_28 o61 m2_24 (by omega) (bt rfl) rfl rfl <| ?_
    have z3 : (min (cl (F x3)) ((cl (F (x3 - x1))) + 1)) ≤ (cl (F x3)) ∧ (min (cl (F x3)) ((cl (F (x3 - x1))) + 1)) ≤ ((cl (F (x3 - x1))) + 1) := by omega
    have z4 : 0 ≤ (min (cl (F x3)) ((cl (F (x3 - x1))) + 1)) := by omega
    refine ok_iastore (pc' := 32) i61_31 (ShPacking_k1 hSK) (ShPacking_l1 hSK) (by omega) rfl <| ok_iinc (pc' := 35) (v := (x3 + (-1))) (ls' := [aR K, aI x1, aI x2, aI (x3 + (-1))]) i61_32 rfl rfl rfl rfl <| ok_goto (pc' := 2) i61_35 rfl <| ?_
    refine ih (x3 - 1) _ _ (by omega) ⟨by omega, fun k h8 h9 => ?_, fun k h8 h9 => ?_, fun c hc => ?_, rfl⟩
    · by_cases hk : k = x3
      · rw [rd_eq' hk, hk, cl_comb (hB x3 (by omega) (by omega)) (hB (x3 - x1) (by omega) (by omega))]
        unfold offF
        rw [if_pos (by omega)]
      · rw [rd_ni hk rfl]
        exact hA8 k (by omega) h9
    · rw [rd_ni (by omega) rfl]
      exact hB8 k h8 (by omega)
    · rw [up2_na hc]
      exact hN c hc
theorem t62 {g : AG} {M : AM} {K B : Nat} {F : Int → Int} {x1 x2 : Int} (hSK : ShPacking g K B) (hF : ∀ k : Int, 0 ≤ k → k ≤ x2 → M (K + 1) k = cl (F k)) (hB : Bd x2 200 F) (h1 : 0 ≤ x1 ∧ x1 ≤ 200) (h2 : 0 ≤ x2 ∧ x2 ≤ 209) :
    Ok 0 62 0 [aR K, aI x1, aI x2, aU, aU] [] g M (Rt none g (fun M9 => M9 K 2 = (pickS x1 x2 F).1 ∧ M9 K 3 = (pickS x1 x2 F).2 ∧ ∀ c, c ≠ K → M9 c = M c)) := by
  refine ok_aloadn (pc' := 1) i62_0 rfl rfl <| ok_iloadn (pc' := 2) i62_1 rfl rfl <| ok_putfi (pc' := 5) i62_2 o62 pi62_45 (ShPacking_k0 hSK) rfl <| ok_aloadn (pc' := 6) i62_5 rfl rfl <| ok_iconst (pc' := 7) i62_6 rfl <| ok_putfi (pc' := 10) i62_7 o62 pi62_48 (ShPacking_k0 hSK) rfl <| ok_iconst (pc' := 11) i62_10 rfl <| ok_istoren (pc' := 12) (ls' := [aR K, aI x1, aI x2, aI 1, aU]) i62_11 (bt rfl) rfl rfl <| ?_
  refine ok_for (lo := 1) (n := x2.toNat) (f := pickF x1 F) (a0 := (x1, 0)) (fun x3 a ls M9 => M9 K 2 = a.1 ∧ M9 K 3 = a.2 ∧ ((0 ≤ a.1 ∧ a.1 ≤ 200) ∧ (0 ≤ a.2 ∧ a.2 ≤ 1000)) ∧ (∀ c, c ≠ K → M9 c = M c) ∧ ∃ w4 : AV, am_cat w4 = 1 ∧ ls = [aR K, aI x1, aI x2, aI x3, w4]) ?_ ?_ _ _ ⟨rd_ni (by decide) rd_eq, rd_eq, ⟨⟨h1.1, h1.2⟩, by show (0 : Int) ≤ 0 ∧ (0 : Int) ≤ 1000; decide⟩, fun c hc => by rw [up2_na hc, up2_na hc], aU, rfl, rfl⟩
  · rintro x3 ⟨a1, a2⟩ ls M9 g1 g2 ⟨hL, hP, hx, hN, w4, hw4, rfl⟩ ih
    dsimp only at hL hP hx
    have g3 : x3 < x2 + 1 := by omega
    refine ok_iloadn (pc' := 13) i62_12 rfl rfl <| ok_iloadn (pc' := 14) i62_13 rfl rfl <| ?_
    refine ok_cgt (pc1 := 91) (pc2 := 17) i62_14 (by omega) rfl rfl (fun h9 => by exfalso; omega) (fun h1 => ?_)
    refine ok_iconst (pc' := 18) i62_17 rfl <| ok_iloadn (pc' := 19) i62_18 rfl rfl <| ok_iloadn (pc' := 20) i62_19 rfl rfl <| ok_isub (v := (x1 - x3)) (pc' := 21) i62_20 rfl rfl <| ok_max (v := (max 0 (x1 - x3))) (pc' := 24) i62_21 o62 m2_51 (by omega) (bt rfl) rfl rfl <| ?_
    have z1 : 0 ≤ (max 0 (x1 - x3)) ∧ (x1 - x3) ≤ (max 0 (x1 - x3)) := by omega
    have z2 : (max 0 (x1 - x3)) ≤ 200 := by omega
    refine ok_istore (pc' := 26) (ls' := [aR K, aI x1, aI x2, aI x3, aI (max 0 (x1 - x3))]) i62_24 (bt rfl) rfl rfl <| ok_aloadn (pc' := 27) i62_26 rfl rfl <| ok_getfr (r := (K + 1)) (pc' := 30) i62_27 o62 gr2_9 (ShPacking_k0 hSK) (ShPacking_r1 hSK) rfl <| ok_iloadn (pc' := 31) i62_30 rfl rfl <| ?_
    have z3 : 0 ≤ (cl (F x3)) ∧ (cl (F x3)) ≤ 1000 := by have h8 := cl_rg (hB x3 (by omega) (by omega)); omega
    refine ok_iaload (v := (cl (F x3))) (pc' := 32) i62_31 (ShPacking_k1 hSK) (by decide) (ShPacking_l1 hSK) (by omega) ((congrFun (hN (K + 1) (by omega)) _).trans (hF x3 (by omega) (by omega))) rfl <| ok_sipush (v := 1000) (pc' := 35) i62_32 rfl rfl <| ?_
    refine ok_cge (pc1 := 85) (pc2 := 38) i62_35 (by omega) rfl rfl (fun h2 => ?_) (fun h2 => ?_)
    · refine ok_iinc (pc' := 88) (v := (x3 + 1)) (ls' := [aR K, aI x1, aI x2, aI (x3 + 1), aI (max 0 (x1 - x3))]) i62_85 rfl rfl rfl rfl <| ok_goto (pc' := 12) i62_88 rfl <| ?_
      have h8 := cl_rg (hB x3 (by omega) (by omega))
      have hc : F x3 ≠ -1 → cl (F x3) = F x3 := fun h => if_neg h
      have e : pickF x1 F x3 (a1, a2) = (a1, a2) := by unfold pickF; dsimp only; grind
      exact ih _ _ ⟨by rw [e]; exact hL, by rw [e]; exact hP, by rw [e]; exact hx, hN, aI _, rfl, rfl⟩
    · refine ok_iload (pc' := 40) i62_38 rfl rfl <| ok_aloadn (pc' := 41) i62_40 rfl rfl <| ok_getfi (v := a1) (pc' := 44) i62_41 o62 gi2_45 (ShPacking_k0 hSK) hL rfl <| ?_
      refine ok_clt (pc1 := 69) (pc2 := 47) i62_44 (by omega) rfl rfl (fun h3 => ?_) (fun h3 => ?_)
      · refine ok_aloadn (pc' := 70) i62_69 rfl rfl <| ok_iload (pc' := 72) i62_70 rfl rfl <| ok_putfi (pc' := 75) i62_72 o62 pi62_45 (ShPacking_k0 hSK) rfl <| ok_aloadn (pc' := 76) i62_75 rfl rfl <| ok_aloadn (pc' := 77) i62_76 rfl rfl <| ok_getfr (r := (K + 1)) (pc' := 80) i62_77 o62 gr2_9 (ShPacking_k0 hSK) (ShPacking_r1 hSK) rfl <| ok_iloadn (pc' := 81) i62_80 rfl rfl <| ok_iaload (v := (cl (F x3))) (pc' := 82) i62_81 (ShPacking_k1 hSK) (by decide) (ShPacking_l1 hSK) (by omega) (rd_na (by omega) ((congrFun (hN (K + 1) (by omega)) _).trans (hF x3 (by omega) (by omega)))) rfl <| ?_
        refine ok_putfi (pc' := 85) i62_82 o62 pi62_48 (ShPacking_k0 hSK) rfl <| ok_iinc (pc' := 88) (v := (x3 + 1)) (ls' := [aR K, aI x1, aI x2, aI (x3 + 1), aI (max 0 (x1 - x3))]) i62_85 rfl rfl rfl rfl <| ok_goto (pc' := 12) i62_88 rfl <| ?_
        have h8 := cl_rg (hB x3 (by omega) (by omega))
        have hc : F x3 ≠ -1 → cl (F x3) = F x3 := fun h => if_neg h
        have e : pickF x1 F x3 (a1, a2) = ((max 0 (x1 - x3)), (F x3)) := by unfold pickF; dsimp only; grind
        exact ih _ _ ⟨by rw [e]; exact (rd_ni (by decide) rd_eq), by rw [e]; exact rd_eq.trans (hc (by omega)), by rw [e]; dsimp only; have := hc (by omega); omega, fun c hcn => by rw [up2_na hcn, up2_na hcn]; exact hN c hcn, aI _, rfl, rfl⟩
      · refine ok_iload (pc' := 49) i62_47 rfl rfl <| ok_aloadn (pc' := 50) i62_49 rfl rfl <| ok_getfi (v := a1) (pc' := 53) i62_50 o62 gi2_45 (ShPacking_k0 hSK) hL rfl <| ?_
        refine ok_cne (pc1 := 85) (pc2 := 56) i62_53 (by omega) rfl rfl (fun h4 => ?_) (fun h4 => ?_)
        · refine ok_iinc (pc' := 88) (v := (x3 + 1)) (ls' := [aR K, aI x1, aI x2, aI (x3 + 1), aI (max 0 (x1 - x3))]) i62_85 rfl rfl rfl rfl <| ok_goto (pc' := 12) i62_88 rfl <| ?_
          have h8 := cl_rg (hB x3 (by omega) (by omega))
          have hc : F x3 ≠ -1 → cl (F x3) = F x3 := fun h => if_neg h
          have e : pickF x1 F x3 (a1, a2) = (a1, a2) := by unfold pickF; dsimp only; grind
          exact ih _ _ ⟨by rw [e]; exact hL, by rw [e]; exact hP, by rw [e]; exact hx, hN, aI _, rfl, rfl⟩
        · refine ok_aloadn (pc' := 57) i62_56 rfl rfl <| ok_getfr (r := (K + 1)) (pc' := 60) i62_57 o62 gr2_9 (ShPacking_k0 hSK) (ShPacking_r1 hSK) rfl <| ok_iloadn (pc' := 61) i62_60 rfl rfl <| ok_iaload (v := (cl (F x3))) (pc' := 62) i62_61 (ShPacking_k1 hSK) (by decide) (ShPacking_l1 hSK) (by omega) ((congrFun (hN (K + 1) (by omega)) _).trans (hF x3 (by omega) (by omega))) rfl <| ok_aloadn (pc' := 63) i62_62 rfl rfl <| ok_getfi (v := a2) (pc' := 66) i62_63 o62 gi2_48 (ShPacking_k0 hSK) hP rfl <| ?_
          refine ok_cge (pc1 := 85) (pc2 := 69) i62_66 (by omega) rfl rfl (fun h5 => ?_) (fun h5 => ?_)
          · refine ok_iinc (pc' := 88) (v := (x3 + 1)) (ls' := [aR K, aI x1, aI x2, aI (x3 + 1), aI (max 0 (x1 - x3))]) i62_85 rfl rfl rfl rfl <| ok_goto (pc' := 12) i62_88 rfl <| ?_
            have h8 := cl_rg (hB x3 (by omega) (by omega))
            have hc : F x3 ≠ -1 → cl (F x3) = F x3 := fun h => if_neg h
            have e : pickF x1 F x3 (a1, a2) = (a1, a2) := by unfold pickF; dsimp only; grind
            exact ih _ _ ⟨by rw [e]; exact hL, by rw [e]; exact hP, by rw [e]; exact hx, hN, aI _, rfl, rfl⟩
          · refine ok_aloadn (pc' := 70) i62_69 rfl rfl <| ok_iload (pc' := 72) i62_70 rfl rfl <| ok_putfi (pc' := 75) i62_72 o62 pi62_45 (ShPacking_k0 hSK) rfl <| ok_aloadn (pc' := 76) i62_75 rfl rfl <| ok_aloadn (pc' := 77) i62_76 rfl rfl <| ok_getfr (r := (K + 1)) (pc' := 80) i62_77 o62 gr2_9 (ShPacking_k0 hSK) (ShPacking_r1 hSK) rfl <| ok_iloadn (pc' := 81) i62_80 rfl rfl <| ok_iaload (v := (cl (F x3))) (pc' := 82) i62_81 (ShPacking_k1 hSK) (by decide) (ShPacking_l1 hSK) (by omega) (rd_na (by omega) ((congrFun (hN (K + 1) (by omega)) _).trans (hF x3 (by omega) (by omega)))) rfl <| ?_
            refine ok_putfi (pc' := 85) i62_82 o62 pi62_48 (ShPacking_k0 hSK) rfl <| ok_iinc (pc' := 88) (v := (x3 + 1)) (ls' := [aR K, aI x1, aI x2, aI (x3 + 1), aI (max 0 (x1 - x3))]) i62_85 rfl rfl rfl rfl <| ok_goto (pc' := 12) i62_88 rfl <| ?_
            have h8 := cl_rg (hB x3 (by omega) (by omega))
            have hc : F x3 ≠ -1 → cl (F x3) = F x3 := fun h => if_neg h
            have e : pickF x1 F x3 (a1, a2) = ((max 0 (x1 - x3)), (F x3)) := by unfold pickF; dsimp only; grind
            exact ih _ _ ⟨by rw [e]; exact (rd_ni (by decide) rd_eq), by rw [e]; exact rd_eq.trans (hc (by omega)), by rw [e]; dsimp only; have := hc (by omega); omega, fun c hcn => by rw [up2_na hcn, up2_na hcn]; exact hN c hcn, aI _, rfl, rfl⟩
  · rintro x3 ⟨a1, a2⟩ ls M9 g1 g2 ⟨hL, hP, hx, hN, w4, hw4, rfl⟩
    dsimp only at hL hP hx
    have g3 : x3 = x2 + 1 := by omega
    refine ok_iloadn (pc' := 13) i62_12 rfl rfl <| ok_iloadn (pc' := 14) i62_13 rfl rfl <| ?_
    refine ok_cgt (pc1 := 91) (pc2 := 17) i62_14 (by omega) rfl rfl (fun h1 => ?_) (fun h9 => by exfalso; omega)
    refine ok_vret i62_91 rt62 <| ?_
    exact ⟨rfl, rfl, by unfold pickS; rw [g2]; exact hL, by unfold pickS; rw [g2]; exact hP, hN⟩
theorem w60_76 {d : Nat} {Q : AO → AG → AM → Prop} {g : AG} {M : AM} {K B : Nat} {s q F0 : Int → Int} {b x1 x2 x3 : Int} (hSK : ShPacking g K B) (hSB : ShState g B) (hRB : RepS M B s) (hV : Val b q s) (hQ : ValQ q) (hKB : K + 2 ≤ B ∨ B + 24 ≤ K) (hF0 : ∀ k : Int, 0 ≤ k → k ≤ x2 → M (K + 1) k = cl (F0 k)) (hB0 : Bd x2 (9 * x3) F0) (c1 : 0 ≤ x1 ∧ x1 ≤ 200) (c2 : 0 ≤ x2 ∧ x2 ≤ 209) (h3 : 0 ≤ x3 ∧ x3 < s 4)
    (K8 : ∀ M1 F, (∀ k : Int, 0 ≤ k → k ≤ x2 → M1 (K + 1) k = cl (F k)) → Bd x2 (9 * x3 + 9) F → (∀ c, c ≠ K + 1 → M1 c = M c) → F = packO s x2 x3 F0 → ∀ ls, ls = [aR K, aI x1, aI x2, aI x3, aI (s ((414 + (8 * x3)) + 4)), aI (s ((414 + (8 * x3)) + 4))] → Ok (d + 1) 60 115 ls [] g M1 Q) :
    Ok (d + 1) 60 76 [aR K, aI x1, aI x2, aI x3, aI (s ((414 + (8 * x3)) + 4)), aI 0] [] g M Q := by
  have y4 := V_4 hV
  have z4 := V_o4 hV h3.1 h3.2
  refine ok_for (lo := 0) (n := (s ((414 + (8 * x3)) + 4)).toNat) (f := fun _ F => offF x2 (s (414 + (8 * x3)) + s 1) F) (a0 := F0) (fun x5 F ls M9 => (∀ k : Int, 0 ≤ k → k ≤ x2 → M9 (K + 1) k = cl (F k)) ∧ Bd x2 (9 * x3 + x5) F ∧ (∀ c, c ≠ K + 1 → M9 c = M c) ∧ ls = [aR K, aI x1, aI x2, aI x3, aI (s ((414 + (8 * x3)) + 4)), aI x5]) ?_ ?_ _ _ ⟨hF0, by rw [Int.add_zero]; exact hB0, fun _ _ => rfl, rfl⟩
  · rintro x5 F ls M9 g1 g2 ⟨hF, hB, hN, rfl⟩ ih
    have g3 : x5 < (s ((414 + (8 * x3)) + 4)) := by omega
    have hR9 : RepS M9 B s := RepS.fr hRB (fun a h1 h2 => hN a (by omega))
    refine ok_iload (pc' := 78) i60_76 rfl rfl <| ok_iload (pc' := 80) i60_78 rfl rfl <| ?_
    refine ok_cge (pc1 := 115) (pc2 := 83) i60_80 (by omega) rfl rfl (fun h9 => by exfalso; omega) (fun h1 => ?_)
    refine ok_aloadn (pc' := 84) i60_83 rfl rfl <| ok_aloadn (pc' := 85) i60_84 rfl rfl <| ok_getfr (r := B) (pc' := 88) i60_85 o60 gr2_15 (ShPacking_k0 hSK) (ShPacking_r0 hSK) rfl <| ok_getfr (r := (B + 8)) (pc' := 91) i60_88 o60 gr2_34 (ShState_k0 hSB) (ShState_r5 hSB) rfl <| ok_iconst (pc' := 92) i60_91 rfl <| ok_aaload (r := (B + 9)) (pc' := 93) i60_92 (ShState_k8 hSB) (by decide) (ShState_l8 hSB) (by decide) (ShState_e8_0 hSB) rfl <| ok_iloadn (pc' := 94) i60_93 rfl rfl <| ?_
    have z61 : 1 ≤ s (414 + (8 * x3)) ∧ s (414 + (8 * x3)) ≤ 200 := V_o0 hV (i := x3) (by omega) (by omega)
    refine ok_iaload (v := (s (414 + (8 * x3)))) (pc' := 95) i60_94 (ShState_k9 hSB) (by decide) (ShState_l9 hSB) (by omega) (RepS_9 hR9 (by omega) (by omega)) rfl <| ok_aloadn (pc' := 96) i60_95 rfl rfl <| ok_getfr (r := B) (pc' := 99) i60_96 o60 gr2_15 (ShPacking_k0 hSK) (ShPacking_r0 hSK) rfl <| ok_getfr (r := (B + 1)) (pc' := 102) i60_99 o60 gr2_19 (ShState_k0 hSB) (ShState_r1 hSB) rfl <| ok_iconst (pc' := 103) i60_102 rfl <| ?_
    have z62 : 0 ≤ s 1 ∧ s 1 ≤ 9 := V_1 hV
    refine ok_iaload (v := (s 1)) (pc' := 104) i60_103 (ShState_k1 hSB) (by decide) (ShState_l1 hSB) (by decide) (RepS_1_0 hR9) rfl <| ok_iadd (v := ((s (414 + (8 * x3))) + (s 1))) (pc' := 105) i60_104 rfl rfl <| ok_iloadn (pc' := 106) i60_105 rfl rfl <| ?_
    refine ok_cn0 (pc' := 109) (d0 := 0) i60_106 rfl (cl_v o60 m2_38 na61 rfl rfl (bt rfl) (bt rfl) rfl (by rw [ShPacking_k0 hSK, o61])) ln61 (pd61 (aR K) (aI ((s (414 + (8 * x3))) + (s 1))) (aI x2)) (by omega) (t61 (F := F) (x1 := ((s (414 + (8 * x3))) + (s 1))) (x2 := x2) hSK hF (fun k h8 h9 => by have := hB k h8 h9; omega) (by omega) (by omega)) rfl (fun M2 p3 => ?_)
    refine ok_iinc (pc' := 112) (v := (x5 + 1)) (ls' := [aR K, aI x1, aI x2, aI x3, aI (s ((414 + (8 * x3)) + 4)), aI (x5 + 1)]) i60_109 rfl rfl rfl rfl <| ok_goto (pc' := 76) i60_112 rfl <| ?_
    exact ih _ _ ⟨p3.1, by rw [show 9 * x3 + (x5 + 1) = 9 * x3 + x5 + 1 by omega]; exact off_bd hB (by omega) (by omega), fun c hc => (p3.2 c hc).trans (hN c hc), rfl⟩
  · rintro x5 F ls M9 g1 g2 ⟨hF, hB, hN, rfl⟩
    have g3 : x5 = (s ((414 + (8 * x3)) + 4)) := by omega
    have hR9 : RepS M9 B s := RepS.fr hRB (fun a h1 h2 => hN a (by omega))
    refine ok_iload (pc' := 78) i60_76 rfl rfl <| ok_iload (pc' := 80) i60_78 rfl rfl <| ?_
    refine ok_cge (pc1 := 115) (pc2 := 83) i60_80 (by omega) rfl rfl (fun h1 => ?_) (fun h9 => by exfalso; omega)
    refine K8 M9 _ hF ?_ hN g2.symm _ (by rw [g3])
    intro k h8 h9
    have h10 := hB k h8 h9
    omega
theorem w60_49 {d : Nat} {g : AG} {M : AM} {K B : Nat} {s q : Int → Int} {b x1 x2 : Int} {w4 w5 : AV} (hSK : ShPacking g K B) (hSB : ShState g B) (hRB : RepS M B s) (hV : Val b q s) (hQ : ValQ q) (hKB : K + 2 ≤ B ∨ B + 24 ≤ K) (hF0 : ∀ k : Int, 0 ≤ k → k ≤ x2 → M (K + 1) k = cl (packI k)) (c1 : 0 ≤ x1 ∧ x1 ≤ 200) (c2 : 0 ≤ x2 ∧ x2 ≤ 209) (hw4 : am_cat w4 = 1) (hw5 : am_cat w5 = 1) :
    Ok (d + 1) 60 49 [aR K, aI x1, aI x2, aI 0, w4, w5] [] g M (Rt none g (fun M9 => M9 K 2 = (pickS x1 x2 (packS s x2)).1 ∧ M9 K 3 = (pickS x1 x2 (packS s x2)).2 ∧ ∀ c, c ≠ K ∧ c ≠ K + 1 → M9 c = M c)) := by
  have y4 := V_4 hV
  refine ok_for (lo := 0) (n := (s 4).toNat) (f := fun o F => packO s x2 o F) (a0 := packI) (fun x3 F ls M9 => (∀ k : Int, 0 ≤ k → k ≤ x2 → M9 (K + 1) k = cl (F k)) ∧ Bd x2 (9 * x3) F ∧ (∀ c, c ≠ K + 1 → M9 c = M c) ∧ ∃ w4 w5 : AV, am_cat w4 = 1 ∧ am_cat w5 = 1 ∧ ls = [aR K, aI x1, aI x2, aI x3, w4, w5]) ?_ ?_ _ _ ⟨hF0, by intro k h0 h1; unfold packI; split <;> omega, fun _ _ => rfl, w4, w5, hw4, hw5, rfl⟩
  · rintro x3 F ls M9 g1 g2 ⟨hF, hB, hN, w4, w5, hw4, hw5, rfl⟩ ih
    have g3 : x3 < s 4 := by omega
    have hR9 : RepS M9 B s := RepS.fr hRB (fun a h1 h2 => hN a (by omega))
    refine ok_iloadn (pc' := 50) i60_49 rfl rfl <| ok_aloadn (pc' := 51) i60_50 rfl rfl <| ok_getfr (r := B) (pc' := 54) i60_51 o60 gr2_15 (ShPacking_k0 hSK) (ShPacking_r0 hSK) rfl <| ok_getfi (v := (s 4)) (pc' := 57) i60_54 o60 gi2_30 (ShState_k0 hSB) (RepS_f4 hR9) rfl <| ?_
    refine ok_cge (pc1 := 121) (pc2 := 60) i60_57 (by omega) rfl rfl (fun h9 => by exfalso; omega) (fun h1 => ?_)
    refine ok_aloadn (pc' := 61) i60_60 rfl rfl <| ok_getfr (r := B) (pc' := 64) i60_61 o60 gr2_15 (ShPacking_k0 hSK) (ShPacking_r0 hSK) rfl <| ok_getfr (r := (B + 8)) (pc' := 67) i60_64 o60 gr2_34 (ShState_k0 hSB) (ShState_r5 hSB) rfl <| ok_iconst (pc' := 68) i60_67 rfl <| ok_aaload (r := (B + 13)) (pc' := 69) i60_68 (ShState_k8 hSB) (by decide) (ShState_l8 hSB) (by decide) (ShState_e8_4 hSB) rfl <| ok_iloadn (pc' := 70) i60_69 rfl rfl <| ?_
    have z61 : 0 ≤ s ((414 + (8 * x3)) + 4) ∧ s ((414 + (8 * x3)) + 4) ≤ 9 := V_o4 hV (i := x3) (by omega) (by omega)
    refine ok_iaload (v := (s ((414 + (8 * x3)) + 4))) (pc' := 71) i60_70 (ShState_k13 hSB) (by decide) (ShState_l13 hSB) (by omega) (RepS_13 hR9 (by omega) (by omega)) rfl <| ok_istore (pc' := 73) (ls' := [aR K, aI x1, aI x2, aI x3, aI (s ((414 + (8 * x3)) + 4)), w5]) i60_71 (bt rfl) rfl rfl <| ok_iconst (pc' := 74) i60_73 rfl <| ok_istore (pc' := 76) (ls' := [aR K, aI x1, aI x2, aI x3, aI (s ((414 + (8 * x3)) + 4)), aI 0]) i60_74 (bt rfl) rfl rfl <| ?_
    refine w60_76 hSK hSB hR9 hV hQ hKB hF hB c1 c2 ⟨by omega, by omega⟩ (fun M1 F1 hF1 hB1 hN1 e1 ls8 hls => ?_)
    subst hls
    refine ok_iinc (pc' := 118) (v := (x3 + 1)) (ls' := [aR K, aI x1, aI x2, aI (x3 + 1), aI (s ((414 + (8 * x3)) + 4)), aI (s ((414 + (8 * x3)) + 4))]) i60_115 rfl rfl rfl rfl <| ok_goto (pc' := 49) i60_118 rfl <| ?_
    exact ih _ _ ⟨by rw [← e1]; exact hF1, by rw [show 9 * (x3 + 1) = 9 * x3 + 9 by omega, ← e1]; exact hB1, fun c hc => (hN1 c hc).trans (hN c hc), aI _, aI _, rfl, rfl, rfl⟩
  · rintro x3 F ls M9 g1 g2 ⟨hF, hB, hN, w4, w5, hw4, hw5, rfl⟩
    have g3 : x3 = s 4 := by omega
    have hR9 : RepS M9 B s := RepS.fr hRB (fun a h1 h2 => hN a (by omega))
    refine ok_iloadn (pc' := 50) i60_49 rfl rfl <| ok_aloadn (pc' := 51) i60_50 rfl rfl <| ok_getfr (r := B) (pc' := 54) i60_51 o60 gr2_15 (ShPacking_k0 hSK) (ShPacking_r0 hSK) rfl <| ok_getfi (v := (s 4)) (pc' := 57) i60_54 o60 gi2_30 (ShState_k0 hSB) (RepS_f4 hR9) rfl <| ?_
    refine ok_cge (pc1 := 121) (pc2 := 60) i60_57 (by omega) rfl rfl (fun h1 => ?_) (fun h9 => by exfalso; omega)
    refine ok_aloadn (pc' := 122) i60_121 rfl rfl <| ok_iloadn (pc' := 123) i60_122 rfl rfl <| ok_iloadn (pc' := 124) i60_123 rfl rfl <| ?_
    refine ok_cn0 (pc' := 127) (d0 := 0) i60_124 rfl (cl_v o60 m2_42 na62 rfl rfl (bt rfl) (bt rfl) rfl (by rw [ShPacking_k0 hSK, o62])) ln62 (pd62 (aR K) (aI x1) (aI x2)) (by omega) (t62 (F := F) (x1 := x1) (x2 := x2) hSK hF (fun k h8 h9 => by have := hB k h8 h9; omega) (by omega) (by omega)) rfl (fun M2 p3 => ?_)
    refine ok_vret i60_127 rt60 <| ?_
    have e9 : F = packS s x2 := g2.symm
    rw [e9] at p3
    exact ⟨rfl, rfl, p3.1, p3.2.1, fun c hc => (p3.2.2 c hc.1).trans (hN c hc.2)⟩
theorem t60 {g : AG} {M : AM} {K B : Nat} {s q : Int → Int} {b x1 r0 : Int} (hSK : ShPacking g K B) (hSB : ShState g B) (hRB : RepS M B s) (hV : Val b q s) (hQ : ValQ q) (hKB : K + 2 ≤ B ∨ B + 24 ≤ K) (hr : x1 = s (94 + r0)) (c1 : 0 ≤ x1 ∧ x1 ≤ 200) :
    Ok 1 60 0 [aR K, aI x1, aU, aU, aU, aU] [] g M (Rt none g (fun M9 => M9 K 2 = (bestS s r0).1 ∧ M9 K 3 = (bestS s r0).2 ∧ ∀ c, c ≠ K ∧ c ≠ K + 1 → M9 c = M c)) := by
  have y1 := V_1 hV
  unfold bestS
  refine ok_iloadn (pc' := 1) i60_0 rfl rfl <| ok_aloadn (pc' := 2) i60_1 rfl rfl <| ok_getfr (r := B) (pc' := 5) i60_2 o60 gr2_15 (ShPacking_k0 hSK) (ShPacking_r0 hSK) rfl <| ok_getfr (r := (B + 1)) (pc' := 8) i60_5 o60 gr2_19 (ShState_k0 hSB) (ShState_r1 hSB) rfl <| ok_iconst (pc' := 9) i60_8 rfl <| ok_iaload (v := (s 1)) (pc' := 10) i60_9 (ShState_k1 hSB) (by decide) (ShState_l1 hSB) (by decide) (RepS_1_0 hRB) rfl <| ok_iadd (v := (x1 + (s 1))) (pc' := 11) i60_10 rfl rfl <| ok_sipush (v := 209) (pc' := 14) i60_11 rfl rfl <| ?_
  refine ok_min (v := (min (x1 + (s 1)) 209)) (pc' := 17) i60_14 o60 m2_24 (by omega) (bt rfl) rfl rfl <| ?_
  have z1 : (min (x1 + (s 1)) 209) ≤ (x1 + (s 1)) ∧ (min (x1 + (s 1)) 209) ≤ 209 := by omega
  have z2 : 0 ≤ (min (x1 + (s 1)) 209) := by omega
  refine ok_istoren (pc' := 18) (ls' := [aR K, aI x1, aI (min (x1 + (s 1)) 209), aU, aU, aU]) i60_17 (bt rfl) rfl rfl <| ok_aloadn (pc' := 19) i60_18 rfl rfl <| ok_getfr (r := (K + 1)) (pc' := 22) i60_19 o60 gr2_9 (ShPacking_k0 hSK) (ShPacking_r1 hSK) rfl <| ok_iconst (pc' := 23) i60_22 rfl <| ok_iconst (pc' := 24) i60_23 rfl <| ok_iastore (pc' := 25) i60_24 (ShPacking_k1 hSK) (ShPacking_l1 hSK) (by decide) rfl <| ok_iconst (pc' := 26) i60_25 rfl <| ok_istoren (pc' := 27) (ls' := [aR K, aI x1, aI (min (x1 + (s 1)) 209), aI 1, aU, aU]) i60_26 (bt rfl) rfl rfl <| ?_
  obtain ⟨x2, hx2⟩ : ∃ u9 : Int, u9 = (min (x1 + (s 1)) 209) := ⟨_, rfl⟩
  rw [← hx2]
  have c2 : 0 ≤ x2 ∧ x2 ≤ 209 := by omega
  have e2 : s (94 + r0) + s 1 = x2 := by omega
  refine ok_for (σ := Unit) (lo := 1) (n := x2.toNat) (f := fun _ a => a) (a0 := ()) (fun x3 _ ls M9 => (∀ k : Int, 0 ≤ k → k < x3 → M9 (K + 1) k = cl (packI k)) ∧ (∀ c, c ≠ K + 1 → M9 c = M c) ∧ ls = [aR K, aI x1, aI x2, aI x3, aU, aU]) ?_ ?_ _ _ ⟨fun k h8 h9 => by rw [rd_eq' (by omega), show k = 0 by omega]; rfl, fun c hc => up2_na hc, rfl⟩
  · rintro x3 _ ls M9 g1 g2 ⟨hF, hN, rfl⟩ ih
    have g3 : x3 < x2 + 1 := by omega
    have hR9 : RepS M9 B s := RepS.fr hRB (fun a h1 h2 => hN a (by omega))
    refine ok_iloadn (pc' := 28) i60_27 rfl rfl <| ok_iloadn (pc' := 29) i60_28 rfl rfl <| ?_
    refine ok_cgt (pc1 := 47) (pc2 := 32) i60_29 (by omega) rfl rfl (fun h9 => by exfalso; omega) (fun h1 => ?_)
    refine ok_aloadn (pc' := 33) i60_32 rfl rfl <| ok_getfr (r := (K + 1)) (pc' := 36) i60_33 o60 gr2_9 (ShPacking_k0 hSK) (ShPacking_r1 hSK) rfl <| ok_iloadn (pc' := 37) i60_36 rfl rfl <| ok_sipush (v := 1000) (pc' := 40) i60_37 rfl rfl <| ok_iastore (pc' := 41) i60_40 (ShPacking_k1 hSK) (ShPacking_l1 hSK) (by omega) rfl <| ok_iinc (pc' := 44) (v := (x3 + 1)) (ls' := [aR K, aI x1, aI x2, aI (x3 + 1), aU, aU]) i60_41 rfl rfl rfl rfl <| ok_goto (pc' := 27) i60_44 rfl <| ?_
    refine ih _ _ ⟨fun k h8 h9 => ?_, fun c hc => by rw [up2_na hc]; exact hN c hc, rfl⟩
    by_cases hk : k = x3
    · rw [rd_eq' hk, hk]
      have hp : packI x3 = -1 := if_neg (by omega)
      rw [hp]
      rfl
    · rw [rd_ni hk rfl]
      exact hF k h8 (by omega)
  · rintro x3 _ ls M9 g1 g2 ⟨hF, hN, rfl⟩
    have g3 : x3 = x2 + 1 := by omega
    have hR9 : RepS M9 B s := RepS.fr hRB (fun a h1 h2 => hN a (by omega))
    refine ok_iloadn (pc' := 28) i60_27 rfl rfl <| ok_iloadn (pc' := 29) i60_28 rfl rfl <| ?_
    refine ok_cgt (pc1 := 47) (pc2 := 32) i60_29 (by omega) rfl rfl (fun h1 => ?_) (fun h9 => by exfalso; omega)
    refine ok_iconst (pc' := 48) i60_47 rfl <| ok_istoren (pc' := 49) (ls' := [aR K, aI x1, aI x2, aI 0, aU, aU]) i60_48 (bt rfl) rfl rfl <| ?_
    have h9 := w60_49 (d := 0) (w4 := aU) (w5 := aU) hSK hSB hR9 hV hQ hKB (fun k h8 h9 => hF k h8 (by omega)) c1 c2 rfl rfl
    exact h9.mono (fun o g1 M1 h => ⟨h.1, h.2.1, by rw [e2, ← hr]; exact h.2.2.1, by rw [e2, ← hr]; exact h.2.2.2.1, fun c hc => (h.2.2.2.2 c hc).trans (hN c hc.2)⟩)
