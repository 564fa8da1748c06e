/-! THE LAW'S LOOP (by program, wip/gen) -/
theorem rt0 : am_rt 0 = some .boolean := by decide +kernel
def pcT (k : Nat) : Nat := ([288, 361, 417, 430, 443, 456, 469, 525, 609, 677, 745, 801, 869, 925, 969, 1025, 1081, 1149, 1217, 1261, 1305, 1349, 1393, 1437, 1512, 1580, 1636, 1680, 1736, 1792, 1848, 1904, 1972, 2016, 2072, 2116, 2172, 2228, 2293, 2359, 2372, 2440, 2484, 2540, 2596, 2664, 2732, 2788, 2832, 2888, 2980, 3036, 3092, 3160, 3204, 3217, 3273] : List Nat).getD k 0
def ofT : Array Int := #[243, 316, 372, 385, 398, 411, 424, 480, 564, 632, 700, 756, 824, 880, 924, 980, 1036, 1104, 1172, 1216, 1260, 1304, 1348, 1392, 1467, 1535, 1591, 1635, 1691, 1747, 1803, 1859, 1927, 1971, 2027, 2071, 2127, 2183, 2248, 2314, 2327, 2395, 2439, 2495, 2551, 2619, 2687, 2743, 2787, 2843, 2935, 2991, 3047, 3115, 3159, 3172, 3228]
theorem sw_ok : (List.range 57).all (fun k => decide (ofT[k]? = some ((pcT k : Int) - 45))) = true := by decide +kernel
theorem and63 {y : Int} (h : -2147483648 ≤ y ∧ y < 2147483648) : am_and y 63 = y % 64 := by
  obtain ⟨U, hU, hl, hx⟩ := i32_nat h
  have e : am_and y 63 = ((Int32.ofInt y).toBitVec &&& (63#32)).toInt := rfl
  have e2 : ((Int32.ofInt y).toBitVec &&& (63#32)).toNat = U % 64 := by
    rw [BitVec.toNat_and, hU]
    exact Nat.and_two_pow_sub_one_eq_mod U 6
  rw [e, BitVec.toInt_eq_toNat_bmod, e2, show (2 ^ 32 : Nat) = 4294967296 from rfl, bm_4 _ (by omega), if_pos (by omega), hx]
  split <;> omega
theorem ok_sw {d : Nat} {ls st : List AV} {g : AG} {M : AM} {Q : AO → AG → AM → Prop} {t : Int} (ht : 0 ≤ t ∧ t < 64) (h : ∀ k : Nat, k < 57 → t = k → Ok d 0 (pcT k) ls st g M Q) (hd : 57 ≤ t → Ok d 0 3329 ls st g M Q) : Ok d 0 45 ls (aI t :: st) g M Q := by
  by_cases hk : t < 57
  · have e : t = (t.toNat : Int) := by omega
    have hn : t.toNat < 57 := by omega
    have hs := of_decide_eq_true (List.all_eq_true.mp sw_ok t.toNat (List.mem_range.mpr hn))
    refine ok_tsw (pc' := pcT t.toNat) (off := (pcT t.toNat : Int) - 45) i0_45 (by omega) (Or.inl ⟨ht.1, by omega, ?_⟩) (by omega) (h t.toNat hn e)
    rw [Int.sub_zero]
    exact hs
  · exact ok_tsw (pc' := 3329) (off := 3284) i0_45 (by omega) (Or.inr ⟨Or.inr (by omega), rfl⟩) rfl (hd (by omega))
theorem slt_of {xs : Nat → Int32} {b : Int} {M : AM} (hI : Inv xs b M) : (M 445 0 = 0 ∨ (M 445 0 = 1 ∧ M 100 6 = 1)) ∧ (M 445 1 = 0 ∨ (M 445 1 = 1 ∧ M 100 6 = 1)) := by
  obtain ⟨-, -, -, q, -, -, hS⟩ := hI
  exact ⟨(hS 0 (by decide)).2.imp id (fun h => ⟨h.1, h.2.1⟩), (hS 1 (by decide)).2.imp id (fun h => ⟨h.1, h.2.1⟩)⟩
theorem law_case {L n : Nat} {g : AG} {M : AM} {xs : Nat → Int32} {b i : Int} {w6 w7 w8 : AV} {Q : AO → AG → AM → Prop} (hD : HD L n g) (hI : Inv xs b M) (hi : 0 ≤ i ∧ i + 6 ≤ L) (hb : 0 ≤ b ∧ b ≤ 900000) (K : KK L n i b xs Q) {t : Int} (ht : 0 ≤ t ∧ t < 64) :
    Ok 10 0 45 [aR 1, aR 100, aR 448, aR 464, aR 465, aI i, w6, w7, w8] [aI t] g M Q := by
  have hl : M 100 6 = 0 ∨ M 100 6 = 1 := hI.2.2.1
  refine ok_sw ht (fun k hk _ => ?_) (fun _ => K g n M w6 w7 w8 hD (by omega) (Inv_mono hI (by omega)))
  · rcases (show k = 0 ∨ k = 1 ∨ k = 2 ∨ k = 3 ∨ k = 4 ∨ k = 5 ∨ k = 6 ∨ k = 7 ∨ k = 8 ∨ k = 9 ∨ k = 10 ∨ k = 11 ∨ k = 12 ∨ k = 13 ∨ k = 14 ∨ k = 15 ∨ k = 16 ∨ k = 17 ∨ k = 18 ∨ k = 19 ∨ k = 20 ∨ k = 21 ∨ k = 22 ∨ k = 23 ∨ k = 24 ∨ k = 25 ∨ k = 26 ∨ k = 27 ∨ k = 28 ∨ k = 29 ∨ k = 30 ∨ k = 31 ∨ k = 32 ∨ k = 33 ∨ k = 34 ∨ k = 35 ∨ k = 36 ∨ k = 37 ∨ k = 38 ∨ k = 39 ∨ k = 40 ∨ k = 41 ∨ k = 42 ∨ k = 43 ∨ k = 44 ∨ k = 45 ∨ k = 46 ∨ k = 47 ∨ k = 48 ∨ k = 49 ∨ k = 50 ∨ k = 51 ∨ k = 52 ∨ k = 53 ∨ k = 54 ∨ k = 55 ∨ k = 56 by omega) with rfl | rfl | rfl | rfl | rfl | rfl | rfl | rfl | rfl | rfl | rfl | rfl | rfl | rfl | rfl | rfl | rfl | rfl | rfl | rfl | rfl | rfl | rfl | rfl | rfl | rfl | rfl | rfl | rfl | rfl | rfl | rfl | rfl | rfl | rfl | rfl | rfl | rfl | rfl | rfl | rfl | rfl | rfl | rfl | rfl | rfl | rfl | rfl | rfl | rfl | rfl | rfl | rfl | rfl | rfl | rfl | rfl
    · exact hl.elim (fun hl => c0_0 hD hI hi hb hl K) (fun hl => c0_1 hD hI hi hb hl K)
    · exact hl.elim (fun hl => c1_0 hD hI hi hb hl K) (fun hl => c1_1 hD hI hi hb hl K)
    · exact hl.elim (fun hl => c2_0 hD hI hi hb hl K) (fun hl => c2_1 hD hI hi hb hl K)
    · exact hl.elim (fun hl => c3_0 hD hI hi hb hl K) (fun hl => c3_1 hD hI hi hb hl K)
    · exact hl.elim (fun hl => c4_0 hD hI hi hb hl K) (fun hl => c4_1 hD hI hi hb hl K)
    · exact hl.elim (fun hl => c5_0 hD hI hi hb hl K) (fun hl => c5_1 hD hI hi hb hl K)
    · rcases hl with hl | hl
      · exact c6_0 hD hI hi hb hl K
      · rcases (show M 1 (i + 1) = 0 ∨ M 1 (i + 1) = 1 ∨ M 1 (i + 1) = 2 ∨ M 1 (i + 1) = 3 ∨ M 1 (i + 1) = 4 ∨ M 1 (i + 1) = 5 ∨ M 1 (i + 1) = 6 ∨ M 1 (i + 1) = 7 ∨ (M 1 (i + 1) < 0 ∨ 7 < M 1 (i + 1)) by omega) with h1 | h1 | h1 | h1 | h1 | h1 | h1 | h1 | h1
        · exact c6_1_0 hD hI hi hb hl h1 K
        · exact c6_1_1 hD hI hi hb hl h1 K
        · exact c6_1_2 hD hI hi hb hl h1 K
        · exact c6_1_3 hD hI hi hb hl h1 K
        · exact c6_1_4 hD hI hi hb hl h1 K
        · exact c6_1_5 hD hI hi hb hl h1 K
        · exact c6_1_6 hD hI hi hb hl h1 K
        · exact c6_1_7 hD hI hi hb hl h1 K
        · exact c6_1_o hD hI hi hb hl h1 K
    · exact hl.elim (fun hl => c7_0 hD hI hi hb hl K) (fun hl => c7_1 hD hI hi hb hl K)
    · exact hl.elim (fun hl => c8_0 hD hI hi hb hl K) (fun hl => c8_1 hD hI hi hb hl K)
    · exact hl.elim (fun hl => c9_0 hD hI hi hb hl K) (fun hl => c9_1 hD hI hi hb hl K)
    · exact hl.elim (fun hl => c10_0 hD hI hi hb hl K) (fun hl => c10_1 hD hI hi hb hl K)
    · exact hl.elim (fun hl => c11_0 hD hI hi hb hl K) (fun hl => c11_1 hD hI hi hb hl K)
    · exact hl.elim (fun hl => c12_0 hD hI hi hb hl K) (fun hl => c12_1 hD hI hi hb hl K)
    · exact hl.elim (fun hl => c13_0 hD hI hi hb hl K) (fun hl => c13_1 hD hI hi hb hl K)
    · exact hl.elim (fun hl => c14_0 hD hI hi hb hl K) (fun hl => c14_1 hD hI hi hb hl K)
    · exact hl.elim (fun hl => c15_0 hD hI hi hb hl K) (fun hl => c15_1 hD hI hi hb hl K)
    · exact hl.elim (fun hl => c16_0 hD hI hi hb hl K) (fun hl => c16_1 hD hI hi hb hl K)
    · exact hl.elim (fun hl => c17_0 hD hI hi hb hl K) (fun hl => c17_1 hD hI hi hb hl K)
    · exact hl.elim (fun hl => c18_0 hD hI hi hb hl K) (fun hl => c18_1 hD hI hi hb hl K)
    · exact hl.elim (fun hl => c19_0 hD hI hi hb hl K) (fun hl => c19_1 hD hI hi hb hl K)
    · exact hl.elim (fun hl => c20_0 hD hI hi hb hl K) (fun hl => c20_1 hD hI hi hb hl K)
    · exact hl.elim (fun hl => c21_0 hD hI hi hb hl K) (fun hl => c21_1 hD hI hi hb hl K)
    · exact hl.elim (fun hl => c22_0 hD hI hi hb hl K) (fun hl => c22_1 hD hI hi hb hl K)
    · exact hl.elim (fun hl => c23_0 hD hI hi hb hl K) (fun hl => c23_1 hD hI hi hb hl K)
    · exact hl.elim (fun hl => c24_0 hD hI hi hb hl K) (fun hl => c24_1 hD hI hi hb hl K)
    · exact hl.elim (fun hl => c25_0 hD hI hi hb hl K) (fun hl => c25_1 hD hI hi hb hl K)
    · exact hl.elim (fun hl => c26_0 hD hI hi hb hl K) (fun hl => c26_1 hD hI hi hb hl K)
    · exact hl.elim (fun hl => c27_0 hD hI hi hb hl K) (fun hl => c27_1 hD hI hi hb hl K)
    · exact hl.elim (fun hl => c28_0 hD hI hi hb hl K) (fun hl => c28_1 hD hI hi hb hl K)
    · exact hl.elim (fun hl => c29_0 hD hI hi hb hl K) (fun hl => c29_1 hD hI hi hb hl K)
    · exact hl.elim (fun hl => c30_0 hD hI hi hb hl K) (fun hl => c30_1 hD hI hi hb hl K)
    · exact hl.elim (fun hl => c31_0 hD hI hi hb hl K) (fun hl => c31_1 hD hI hi hb hl K)
    · exact hl.elim (fun hl => c32_0 hD hI hi hb hl K) (fun hl => c32_1 hD hI hi hb hl K)
    · exact hl.elim (fun hl => c33_0 hD hI hi hb hl K) (fun hl => c33_1 hD hI hi hb hl K)
    · exact hl.elim (fun hl => c34_0 hD hI hi hb hl K) (fun hl => c34_1 hD hI hi hb hl K)
    · exact hl.elim (fun hl => c35_0 hD hI hi hb hl K) (fun hl => c35_1 hD hI hi hb hl K)
    · exact hl.elim (fun hl => c36_0 hD hI hi hb hl K) (fun hl => c36_1 hD hI hi hb hl K)
    · exact hl.elim (fun hl => c37_0 hD hI hi hb hl K) (fun hl => c37_1 hD hI hi hb hl K)
    · exact hl.elim (fun hl => c38_0 hD hI hi hb hl K) (fun hl => c38_1 hD hI hi hb hl K)
    · exact hl.elim (fun hl => c39_0 hD hI hi hb hl K) (fun hl => c39_1 hD hI hi hb hl K)
    · exact hl.elim (fun hl => c40_0 hD hI hi hb hl K) (fun hl => c40_1 hD hI hi hb hl K)
    · exact hl.elim (fun hl => c41_0 hD hI hi hb hl K) (fun hl => c41_1 hD hI hi hb hl K)
    · exact hl.elim (fun hl => c42_0 hD hI hi hb hl K) (fun hl => c42_1 hD hI hi hb hl K)
    · exact hl.elim (fun hl => c43_0 hD hI hi hb hl K) (fun hl => c43_1 hD hI hi hb hl K)
    · exact hl.elim (fun hl => c44_0 hD hI hi hb hl K) (fun hl => c44_1 hD hI hi hb hl K)
    · exact hl.elim (fun hl => c45_0 hD hI hi hb hl K) (fun hl => c45_1 hD hI hi hb hl K)
    · exact hl.elim (fun hl => c46_0 hD hI hi hb hl K) (fun hl => c46_1 hD hI hi hb hl K)
    · exact hl.elim (fun hl => c47_0 hD hI hi hb hl K) (fun hl => c47_1 hD hI hi hb hl K)
    · exact hl.elim (fun hl => c48_0 hD hI hi hb hl K) (fun hl => c48_1 hD hI hi hb hl K)
    · exact hl.elim (fun hl => c49_0 hD hI hi hb hl K) (fun hl => c49_1 hD hI hi hb hl K)
    · exact hl.elim (fun hl => c50_0 hD hI hi hb hl K) (fun hl => c50_1 hD hI hi hb hl K)
    · exact hl.elim (fun hl => c51_0 hD hI hi hb hl K) (fun hl => c51_1 hD hI hi hb hl K)
    · exact hl.elim (fun hl => c52_0 hD hI hi hb hl K) (fun hl => c52_1 hD hI hi hb hl K)
    · exact hl.elim (fun hl => c53_0 hD hI hi hb hl K) (fun hl => c53_1 hD hI hi hb hl K)
    · exact hl.elim (fun hl => c54_0 hD hI hi hb hl K) (fun hl => c54_1 hD hI hi hb hl K)
    · rcases hl with hl | hl
      · exact c55_0 hD hI hi hb hl K
      · rcases (show M 1 (i + 1) = 0 ∨ M 1 (i + 1) = 1 ∨ (M 1 (i + 1) < 0 ∨ 1 < M 1 (i + 1)) by omega) with h1 | h1 | h1
        · exact c55_1_0 hD hI hi hb hl h1 K
        · exact c55_1_1 hD hI hi hb hl h1 K
        · exact c55_1_o hD hI hi hb hl h1 K
    · have hS := slt_of hI
      rcases hl with hl | hl
      · rcases (show M 1 (i + 1) = 0 ∨ M 1 (i + 1) = 1 ∨ (M 1 (i + 1) < 0 ∨ 1 < M 1 (i + 1)) by omega) with h1 | h1 | h1
        · exact c56_0_0 hD hI hi hb hl h1 (hS.1.resolve_right (fun h9 => by omega)) K
        · exact c56_0_1 hD hI hi hb hl h1 (hS.2.resolve_right (fun h9 => by omega)) K
        · exact c56_0_o hD hI hi hb hl h1 K
      · rcases (show M 1 (i + 1) = 0 ∨ M 1 (i + 1) = 1 ∨ (M 1 (i + 1) < 0 ∨ 1 < M 1 (i + 1)) by omega) with h1 | h1 | h1
        · rcases hS.1 with h2 | h2
          · exact c56_1_0 hD hI hi hb hl h1 h2 K
          · exact c56_1_0u hD hI hi hb hl h1 h2.1 K
        · rcases hS.2 with h2 | h2
          · exact c56_1_1 hD hI hi hb hl h1 h2 K
          · exact c56_1_1u hD hI hi hb hl h1 h2.1 K
        · exact c56_1_o hD hI hi hb hl h1 K
def QL : AO → AG → AM → Prop := fun o g' _ => o = .inl (some (aI 1)) ∧ gN g' ≤ 601024 ∧ gS g' ≤ 7293034
theorem law_loop {L : Nat} {xs : Nat → Int32} (hL : L ≤ 3072) : ∀ (k n : Nat) (g : AG) (M : AM) (b i : Int) (w6 w7 w8 : AV), HD L n g → Inv xs b M → 0 ≤ i → (L : Int) ≤ i + 6 * k → i ≤ 4000 → 0 ≤ b → b + 7 * k ≤ 30000 → n + k ≤ 1000 → Ok 10 0 28 [aR 1, aR 100, aR 448, aR 464, aR 465, aI i, w6, w7, w8] [] g M QL := by
  intro k
  induction k with
  | zero =>
    intro n g M b i w6 w7 w8 hD hI h0 h1 h2 h3 h4 h5
    have hS1 := HD_s hD
    refine ok_iload (pc' := 30) i0_28 rfl rfl <| ok_aloadn (pc' := 31) i0_30 rfl rfl <| ok_arrlen (v := (L : Int)) (pc' := 32) i0_31 (ShScr_k0 hS1) (by decide) (by rw [(ShScr_l0 hS1)] <;> rfl) rfl <| ok_bipush (v := 6) (pc' := 34) i0_32 rfl rfl <| ok_isub (v := ((L : Int) - 6)) (pc' := 35) i0_34 rfl rfl <| ?_
    refine ok_cgt (pc1 := 3335) (pc2 := 38) i0_35 (by omega) rfl rfl (fun h9 => ?_) (fun h9 => by exfalso; omega)
    refine ok_iconst (pc' := 3336) i0_3335 rfl <| ok_iretz i0_3336 rt0 (by decide) <| ?_
    exact ⟨rfl, by have := hD.1.1; omega, by have := hD.1.2; omega⟩
  | succ k ih =>
    intro n g M b i w6 w7 w8 hD hI h0 h1 h2 h3 h4 h5
    have hS1 := HD_s hD
    refine ok_iload (pc' := 30) i0_28 rfl rfl <| ok_aloadn (pc' := 31) i0_30 rfl rfl <| ok_arrlen (v := (L : Int)) (pc' := 32) i0_31 (ShScr_k0 hS1) (by decide) (by rw [(ShScr_l0 hS1)] <;> rfl) rfl <| ok_bipush (v := 6) (pc' := 34) i0_32 rfl rfl <| ok_isub (v := ((L : Int) - 6)) (pc' := 35) i0_34 rfl rfl <| ?_
    refine ok_cgt (pc1 := 3335) (pc2 := 38) i0_35 (by omega) rfl rfl (fun h9 => ?_) (fun h9 => ?_)
    · refine ok_iconst (pc' := 3336) i0_3335 rfl <| ok_iretz i0_3336 rt0 (by decide) <| ?_
      exact ⟨rfl, by have := hD.1.1; omega, by have := hD.1.2; omega⟩
    · have hr := scr_rg hI.1.1 i
      refine ok_aloadn (pc' := 39) i0_38 rfl rfl <| ok_iload (pc' := 41) i0_39 rfl rfl <| ok_iaload (v := M 1 i) (pc' := 42) i0_41 (ShScr_k0 hS1) (by decide) (ShScr_l0 hS1) (by omega) rfl rfl <| ok_bipush (v := 63) (pc' := 44) i0_42 rfl rfl <| ok_iand (v := M 1 i % 64) (pc' := 45) i0_44 (and63 hr) rfl <| ?_
      refine law_case hD hI ⟨h0, by omega⟩ ⟨h3, by omega⟩ (fun g1 n1 M1 w6 w7 w8 hD1 hn1 hI1 => ?_) (by omega)
      refine ok_iinc (pc' := 3332) (v := i + 6) (ls' := [aR 1, aR 100, aR 448, aR 464, aR 465, aI (i + 6), w6, w7, w8]) i0_3329 rfl rfl rfl rfl <| ok_goto (pc' := 28) i0_3332 rfl <| ?_
      exact ih n1 g1 M1 (b + 7) (i + 6) w6 w7 w8 hD1 hI1 (by omega) (by omega) (by omega) (by omega) (by omega) (by omega)
theorem am_g0_scr (L : Nat) : ShScr (am_g0 L) 1 L := ⟨rfl, rfl⟩
theorem am_g0_str (L : Nat) (j : Nat) (hj : j < 15) : ShStr (am_g0 L) (10 + 2 * j) (slen j) := by
  refine ⟨?_, rfl, ?_, ?_⟩
  · show (if 10 + 2 * j < 100 then am_k0 (10 + 2 * j) else 99) = 14
    rw [if_pos (by omega)]
    rcases (show j = 0 ∨ j = 1 ∨ j = 2 ∨ j = 3 ∨ j = 4 ∨ j = 5 ∨ j = 6 ∨ j = 7 ∨ j = 8 ∨ j = 9 ∨ j = 10 ∨ j = 11 ∨ j = 12 ∨ j = 13 ∨ j = 14 by omega) with rfl | rfl | rfl | rfl | rfl | rfl | rfl | rfl | rfl | rfl | rfl | rfl | rfl | rfl | rfl <;> rfl
  · show (if 10 + 2 * j + 1 < 100 then am_k0 (10 + 2 * j + 1) else 99) = 27
    rw [if_pos (by omega)]
    rcases (show j = 0 ∨ j = 1 ∨ j = 2 ∨ j = 3 ∨ j = 4 ∨ j = 5 ∨ j = 6 ∨ j = 7 ∨ j = 8 ∨ j = 9 ∨ j = 10 ∨ j = 11 ∨ j = 12 ∨ j = 13 ∨ j = 14 by omega) with rfl | rfl | rfl | rfl | rfl | rfl | rfl | rfl | rfl | rfl | rfl | rfl | rfl | rfl | rfl <;> rfl
  · show (if 10 + 2 * j + 1 = 1 then L else (am_txt.getD ((10 + 2 * j + 1 - 11) / 2) []).length) = slen j
    rw [if_neg (by omega), show (10 + 2 * j + 1 - 11) / 2 = j by omega]
    rfl
theorem am_all_scripts (L : Nat) (hL : L ≤ 3072) (xs : Nat → Int32) : am_goal L xs := by
  have h : Ok 10 0 0 [aR 1, aU, aU, aU, aU, aU, aU, aU, aU] [] (am_g0 L) (am_M0 xs) QL := law_start (L := L) (xs := xs) rfl rfl (am_g0_scr L) (am_g0_str L) (fun c _ => rfl) (fun g1 M1 hD hI => law_loop hL 513 0 g1 M1 0 0 aU aU aU hD hI (by omega) (by omega) (by omega) (by omega) (by omega) (by omega))
  obtain ⟨f, o, g', M', e, ho, h1, h2⟩ := h.deep (show 10 ≤ 1000 by decide)
  subst ho
  refine ⟨f, g', M', ?_, h1, h2⟩
  have ep : am_pad 0 [aR 1] = [aR 1, aU, aU, aU, aU, aU, aU, aU, aU] := by unfold am_pad; rw [am_l0]; rfl
  rw [ep]
  exact e
