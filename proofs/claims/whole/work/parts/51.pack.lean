/-! PACKING: the reference (by program, wip/gen) -/
theorem offF_at {m u k : Int} {F : Int → Int} (h : u ≤ k ∧ k ≤ m) : offF m u F k = comb (F k) (F (k - u)) := if_pos h
theorem offF_lo {m u k : Int} {F : Int → Int} (h : k < u) : offF m u F k = F k := if_neg (by omega)
theorem gr9_57 : am_gfr 9 57 9 31 = true := by decide +kernel
theorem o229 : am_oc 229 = 9 := by decide +kernel
theorem gi9_283 : am_gfi 9 283 9 32 = true := by decide +kernel
theorem pi229_283 : am_pfi 229 9 283 9 32 = true := by decide +kernel
theorem pi229_286 : am_pfi 229 9 286 9 33 = true := by decide +kernel
theorem gi9_286 : am_gfi 9 286 9 33 = true := by decide +kernel
theorem rt229 : am_rt 229 = none := by decide +kernel
theorem w229_99 {d : Nat} {Q : AO → AG → AM → Prop} {g : AG} {M : AM} {O : Nat} {s q : Int → Int} {b : Int} {F : Int → Int} {x1 x2 x3 x4 x5 x6 : Int} {w8 : AV} (hSO : ShModel g O) (hRO : RepO M O q s) (hV : Val b q s) (hQ : ValQ q) (hF : ∀ k : Int, 0 ≤ k → k ≤ x3 → M (O + 14) k = F k) (hB : Bd x3 200 F) (c1 : 0 ≤ x3 ∧ x3 ≤ 209) (h5 : 1 ≤ x5 ∧ x5 ≤ 209) (hw8 : am_cat w8 = 1)
    (K8 : ∀ M1, (∀ k : Int, 0 ≤ k → k ≤ x3 → M1 (O + 14) k = offF x3 x5 F k) → (∀ c, c ≠ O + 14 → M1 c = M c) → ∀ (x7 : Int) (w8 : AV) ls, am_cat w8 = 1 → ls = [aR O, aI x1, aI x2, aI x3, aI x4, aI x5, aI x6, aI x7, w8] → Ok (d + 1) 229 192 ls [] g M1 Q) :
    Ok (d + 1) 229 99 [aR O, aI x1, aI x2, aI x3, aI x4, aI x5, aI x6, aI x3, w8] [] g M Q := by
  have y4 := V_4 hV
  have y1 := V_1 hV
  refine ok_while (σ := Int) (fun x7 ls M9 => (x7 ≤ x3 ∧ 0 ≤ x7) ∧ (∀ k : Int, x7 < k → k ≤ x3 → M9 (O + 14) k = offF x3 x5 F k) ∧ (∀ k : Int, 0 ≤ k → k ≤ x7 → M9 (O + 14) k = F k) ∧ (∀ c, c ≠ O + 14 → M9 c = M c) ∧ ∃ w8 : AV, am_cat w8 = 1 ∧ ls = [aR O, aI x1, aI x2, aI x3, aI x4, aI x5, aI x6, aI x7, w8]) (fun x7 => (x7 - x5 + 1).toNat) ?_ x3 _ M ⟨by omega, fun k h8 h9 => by omega, fun k h8 h9 => hF k h8 h9, fun _ _ => rfl, w8, hw8, rfl⟩
  rintro x7 ls M9 ⟨h7, hA8, hB8, hN, w8, hw8, rfl⟩ ih
  have hR9 : RepO M9 O q s := RepO.fr hRO ⟨by rw [hN O (by omega)], by rw [hN O (by omega)]⟩ (fun a h1 h2 => hN a (by omega))
  refine ok_iload (pc' := 101) i229_99 rfl rfl <| ok_iload (pc' := 103) i229_101 rfl rfl <| ?_
  refine ok_clt (pc1 := 192) (pc2 := 106) i229_103 (by omega) rfl rfl (fun h1 => ?_) (fun h1 => ?_)
  · refine K8 M9 (fun k h8 h9 => ?_) hN _ _ _ hw8 rfl
    by_cases hk : x7 < k
    · exact hA8 k hk h9
    · rw [hB8 k h8 (by omega), offF_lo (by omega)]
  · refine ok_aloadn (pc' := 107) i229_106 rfl rfl <| ok_getfr (r := (O + 14)) (pc' := 110) i229_107 o229 gr9_57 (ShModel_k0 hSO) (ShModel_r31 hSO) rfl <| ok_iload (pc' := 112) i229_110 rfl rfl <| ok_iload (pc' := 114) i229_112 rfl rfl <| ok_isub (v := (x7 - x5)) (pc' := 115) i229_114 rfl rfl <| ?_
    have z61 : -1 ≤ (F (x7 - x5)) ∧ (F (x7 - x5)) ≤ 200 := by have h8 := hB (x7 - x5) (by omega) (by omega); omega
    refine ok_iaload (v := (F (x7 - x5))) (pc' := 116) i229_115 (ShModel_k14 hSO) (by decide) (ShModel_l14 hSO) (by omega) (hB8 (x7 - x5) (by omega) (by omega)) rfl <| ok_iconst (pc' := 117) i229_116 rfl <| ?_
    refine ok_cne (pc1 := 124) (pc2 := 120) i229_117 (by omega) rfl rfl (fun h2 => ?_) (fun h2 => ?_)
    · refine ok_aloadn (pc' := 125) i229_124 rfl rfl <| ok_getfr (r := (O + 14)) (pc' := 128) i229_125 o229 gr9_57 (ShModel_k0 hSO) (ShModel_r31 hSO) rfl <| ok_iload (pc' := 130) i229_128 rfl rfl <| ok_iload (pc' := 132) i229_130 rfl rfl <| ok_isub (v := (x7 - x5)) (pc' := 133) i229_132 rfl rfl <| ok_iaload (v := (F (x7 - x5))) (pc' := 134) i229_133 (ShModel_k14 hSO) (by decide) (ShModel_l14 hSO) (by omega) (hB8 (x7 - x5) (by omega) (by omega)) rfl <| ok_iconst (pc' := 135) i229_134 rfl <| ok_iadd (v := ((F (x7 - x5)) + 1)) (pc' := 136) i229_135 rfl rfl <| ?_
      refine ok_istore (pc' := 138) (ls' := [aR O, aI x1, aI x2, aI x3, aI x4, aI x5, aI x6, aI x7, aI ((F (x7 - x5)) + 1)]) i229_136 (bt rfl) rfl rfl <| ok_aloadn (pc' := 139) i229_138 rfl rfl <| ok_getfr (r := (O + 14)) (pc' := 142) i229_139 o229 gr9_57 (ShModel_k0 hSO) (ShModel_r31 hSO) rfl <| ok_iload (pc' := 144) i229_142 rfl rfl <| ok_iload (pc' := 146) i229_144 rfl rfl <| ok_iconst (pc' := 147) i229_146 rfl <| ?_
      refine ok_ceq (pc1 := 178) (pc2 := 150) i229_147 (by omega) rfl rfl (fun h9 => by exfalso; omega) (fun h3 => ?_)
      refine ok_aloadn (pc' := 151) i229_150 rfl rfl <| ok_getfr (r := (O + 14)) (pc' := 154) i229_151 o229 gr9_57 (ShModel_k0 hSO) (ShModel_r31 hSO) rfl <| ok_iload (pc' := 156) i229_154 rfl rfl <| ?_
      have z62 : -1 ≤ (F x7) ∧ (F x7) ≤ 200 := by have h8 := hB x7 (by omega) (by omega); omega
      refine ok_iaload (v := (F x7)) (pc' := 157) i229_156 (ShModel_k14 hSO) (by decide) (ShModel_l14 hSO) (by omega) (hB8 x7 (by omega) (by omega)) rfl <| ok_iconst (pc' := 158) i229_157 rfl <| ?_
      refine ok_ceq (pc1 := 173) (pc2 := 161) i229_158 (by omega) rfl rfl (fun h4 => ?_) (fun h4 => ?_)
      · refine ok_iload (pc' := 175) i229_173 rfl rfl <| ok_goto (pc' := 185) i229_175 rfl <| ok_iastore (pc' := 186) i229_185 (ShModel_k14 hSO) (ShModel_l14 hSO) (by omega) rfl <| ok_iinc (pc' := 189) (v := (x7 + (-1))) (ls' := [aR O, aI x1, aI x2, aI x3, aI x4, aI x5, aI x6, aI (x7 + (-1)), aI ((F (x7 - x5)) + 1)]) i229_186 rfl rfl rfl rfl <| ok_goto (pc' := 99) i229_189 rfl <| ?_
        have e : offF x3 x5 F x7 = ((F (x7 - x5)) + 1) := by rw [offF_at (by omega)]; unfold comb; grind
        refine ih (x7 - 1) _ _ (by omega) ⟨by omega, fun k h8 h9 => ?_, fun k h8 h9 => ?_, fun c hc => ?_, aI _, rfl, rfl⟩
        · by_cases hk : k = x7
          · rw [rd_eq' hk, hk, e]
          · rw [rd_ni hk rfl]
            exact hA8 k (by omega) h9
        · rw [rd_ni (by omega) rfl]
          exact hB8 k h8 (by omega)
        · rw [up2_na hc]
          exact hN c hc
      · refine ok_iload (pc' := 163) i229_161 rfl rfl <| ok_aloadn (pc' := 164) i229_163 rfl rfl <| ok_getfr (r := (O + 14)) (pc' := 167) i229_164 o229 gr9_57 (ShModel_k0 hSO) (ShModel_r31 hSO) rfl <| ok_iload (pc' := 169) i229_167 rfl rfl <| ok_iaload (v := (F x7)) (pc' := 170) i229_169 (ShModel_k14 hSO) (by decide) (ShModel_l14 hSO) (by omega) (hB8 x7 (by omega) (by omega)) rfl <| ?_
        refine ok_cge (pc1 := 178) (pc2 := 173) i229_170 (by omega) rfl rfl (fun h5 => ?_) (fun h5 => ?_)
        · refine ok_aloadn (pc' := 179) i229_178 rfl rfl <| ok_getfr (r := (O + 14)) (pc' := 182) i229_179 o229 gr9_57 (ShModel_k0 hSO) (ShModel_r31 hSO) rfl <| ok_iload (pc' := 184) i229_182 rfl rfl <| ok_iaload (v := (F x7)) (pc' := 185) i229_184 (ShModel_k14 hSO) (by decide) (ShModel_l14 hSO) (by omega) (hB8 x7 (by omega) (by omega)) rfl <| ok_iastore (pc' := 186) i229_185 (ShModel_k14 hSO) (ShModel_l14 hSO) (by omega) rfl <| ok_iinc (pc' := 189) (v := (x7 + (-1))) (ls' := [aR O, aI x1, aI x2, aI x3, aI x4, aI x5, aI x6, aI (x7 + (-1)), aI ((F (x7 - x5)) + 1)]) i229_186 rfl rfl rfl rfl <| ok_goto (pc' := 99) i229_189 rfl <| ?_
          have e : offF x3 x5 F x7 = (F x7) := by rw [offF_at (by omega)]; unfold comb; grind
          refine ih (x7 - 1) _ _ (by omega) ⟨by omega, fun k h8 h9 => ?_, fun k h8 h9 => ?_, fun c hc => ?_, aI _, rfl, rfl⟩
          · by_cases hk : k = x7
            · rw [rd_eq' hk, hk, e]
            · rw [rd_ni hk rfl]
              exact hA8 k (by omega) h9
          · rw [rd_ni (by omega) rfl]
            exact hB8 k h8 (by omega)
          · rw [up2_na hc]
            exact hN c hc
        · refine ok_iload (pc' := 175) i229_173 rfl rfl <| ok_goto (pc' := 185) i229_175 rfl <| ok_iastore (pc' := 186) i229_185 (ShModel_k14 hSO) (ShModel_l14 hSO) (by omega) rfl <| ok_iinc (pc' := 189) (v := (x7 + (-1))) (ls' := [aR O, aI x1, aI x2, aI x3, aI x4, aI x5, aI x6, aI (x7 + (-1)), aI ((F (x7 - x5)) + 1)]) i229_186 rfl rfl rfl rfl <| ok_goto (pc' := 99) i229_189 rfl <| ?_
          have e : offF x3 x5 F x7 = ((F (x7 - x5)) + 1) := by rw [offF_at (by omega)]; unfold comb; grind
          refine ih (x7 - 1) _ _ (by omega) ⟨by omega, fun k h8 h9 => ?_, fun k h8 h9 => ?_, fun c hc => ?_, aI _, rfl, rfl⟩
          · by_cases hk : k = x7
            · rw [rd_eq' hk, hk, e]
            · rw [rd_ni hk rfl]
              exact hA8 k (by omega) h9
          · rw [rd_ni (by omega) rfl]
            exact hB8 k h8 (by omega)
          · rw [up2_na hc]
            exact hN c hc
    · refine ok_iconst (pc' := 121) i229_120 rfl <| ok_goto (pc' := 136) i229_121 rfl <| ok_istore (pc' := 138) (ls' := [aR O, aI x1, aI x2, aI x3, aI x4, aI x5, aI x6, aI x7, aI (-1)]) i229_136 (bt rfl) rfl rfl <| ok_aloadn (pc' := 139) i229_138 rfl rfl <| ok_getfr (r := (O + 14)) (pc' := 142) i229_139 o229 gr9_57 (ShModel_k0 hSO) (ShModel_r31 hSO) rfl <| ok_iload (pc' := 144) i229_142 rfl rfl <| ok_iload (pc' := 146) i229_144 rfl rfl <| ok_iconst (pc' := 147) i229_146 rfl <| ?_
      refine ok_kc1 (pc1 := 178) (pc2 := 150) i229_147 (by decide) rfl rfl <| ok_aloadn (pc' := 179) i229_178 rfl rfl <| ok_getfr (r := (O + 14)) (pc' := 182) i229_179 o229 gr9_57 (ShModel_k0 hSO) (ShModel_r31 hSO) rfl <| ok_iload (pc' := 184) i229_182 rfl rfl <| ?_
      have z63 : -1 ≤ (F x7) ∧ (F x7) ≤ 200 := by have h8 := hB x7 (by omega) (by omega); omega
      refine ok_iaload (v := (F x7)) (pc' := 185) i229_184 (ShModel_k14 hSO) (by decide) (ShModel_l14 hSO) (by omega) (hB8 x7 (by omega) (by omega)) rfl <| ok_iastore (pc' := 186) i229_185 (ShModel_k14 hSO) (ShModel_l14 hSO) (by omega) rfl <| ok_iinc (pc' := 189) (v := (x7 + (-1))) (ls' := [aR O, aI x1, aI x2, aI x3, aI x4, aI x5, aI x6, aI (x7 + (-1)), aI (-1)]) i229_186 rfl rfl rfl rfl <| ok_goto (pc' := 99) i229_189 rfl <| ?_
      have e : offF x3 x5 F x7 = (F x7) := by rw [offF_at (by omega)]; unfold comb; grind
      refine ih (x7 - 1) _ _ (by omega) ⟨by omega, fun k h8 h9 => ?_, fun k h8 h9 => ?_, fun c hc => ?_, aI _, rfl, rfl⟩
      · by_cases hk : k = x7
        · rw [rd_eq' hk, hk, e]
        · rw [rd_ni hk rfl]
          exact hA8 k (by omega) h9
      · rw [rd_ni (by omega) rfl]
        exact hB8 k h8 (by omega)
      · rw [up2_na hc]
        exact hN c hc
theorem w229_84 {d : Nat} {Q : AO → AG → AM → Prop} {g : AG} {M : AM} {O : Nat} {s q : Int → Int} {b : Int} {F0 : Int → Int} {x1 x2 x3 x4 : Int} {w7 w8 : AV} (hSO : ShModel g O) (hRO : RepO M O q s) (hV : Val b q s) (hQ : ValQ q) (hF0 : ∀ k : Int, 0 ≤ k → k ≤ x3 → M (O + 14) k = F0 k) (hB0 : Bd x3 (9 * x4) F0) (c1 : 0 ≤ x3 ∧ x3 ≤ 209) (h4 : 0 ≤ x4 ∧ x4 < s 4) (hw7 : am_cat w7 = 1) (hw8 : am_cat w8 = 1)
    (K8 : ∀ M1 F, (∀ k : Int, 0 ≤ k → k ≤ x3 → M1 (O + 14) k = F k) → Bd x3 (9 * x4 + 9) F → (∀ c, c ≠ O + 14 → M1 c = M c) → F = packO s x3 x4 F0 → ∀ (x6 : Int) (w7 w8 : AV) ls, am_cat w7 = 1 → am_cat w8 = 1 → ls = [aR O, aI x1, aI x2, aI x3, aI x4, aI ((s (414 + (8 * x4))) + (s 1)), aI x6, w7, w8] → Ok (d + 1) 229 198 ls [] g M1 Q) :
    Ok (d + 1) 229 84 [aR O, aI x1, aI x2, aI x3, aI x4, aI ((s (414 + (8 * x4))) + (s 1)), aI 0, w7, w8] [] g M Q := by
  have y4 := V_4 hV
  have y1 := V_1 hV
  have z4 := V_o4 hV h4.1 h4.2
  have z0 := V_o0 hV h4.1 h4.2
  refine ok_for (lo := 0) (n := (s ((414 + (8 * x4)) + 4)).toNat) (f := fun _ F => offF x3 (s (414 + (8 * x4)) + s 1) F) (a0 := F0) (fun x6 F ls M9 => (∀ k : Int, 0 ≤ k → k ≤ x3 → M9 (O + 14) k = F k) ∧ Bd x3 (9 * x4 + x6) F ∧ (∀ c, c ≠ O + 14 → M9 c = M c) ∧ ∃ w7 w8 : AV, am_cat w7 = 1 ∧ am_cat w8 = 1 ∧ ls = [aR O, aI x1, aI x2, aI x3, aI x4, aI ((s (414 + (8 * x4))) + (s 1)), aI x6, w7, w8]) ?_ ?_ _ _ ⟨hF0, by rw [Int.add_zero]; exact hB0, fun _ _ => rfl, w7, w8, hw7, hw8, rfl⟩
  · rintro x6 F ls M9 g1 g2 ⟨hF, hB, hN, w7, w8, hw7, hw8, rfl⟩ ih
    have g3 : x6 < (s ((414 + (8 * x4)) + 4)) := by omega
    have hR9 : RepO M9 O q s := RepO.fr hRO ⟨by rw [hN O (by omega)], by rw [hN O (by omega)]⟩ (fun a h1 h2 => hN a (by omega))
    refine ok_iload (pc' := 86) i229_84 rfl rfl <| ok_aloadn (pc' := 87) i229_86 rfl rfl <| ok_iload (pc' := 89) i229_87 rfl rfl <| ok_iconst (pc' := 90) i229_89 rfl <| ok_cc i229_90 rfl (cl_v o229 m9_226 na191 rfl rfl (bt rfl) (bt rfl) rfl (by rw [ShModel_k0 hSO, o191])) ln191 (pd191 (aR O) (aI x4) (aI 4)) <| ok_aloadn (pc' := 1) i191_0 rfl rfl <| ok_getfr (r := (O + 5)) (pc' := 4) i191_1 o191 gr9_22 (ShModel_k0 hSO) (ShModel_r8 hSO) rfl <| ok_sipush (v := 414) (pc' := 7) i191_4 rfl rfl <| ?_
    refine ok_bipush (v := 8) (pc' := 9) i191_7 rfl rfl <| ok_iloadn (pc' := 10) i191_9 rfl rfl <| ok_imul (v := (8 * x4)) (pc' := 11) i191_10 rfl rfl <| ok_iadd (v := (414 + (8 * x4))) (pc' := 12) i191_11 rfl rfl <| ok_iloadn (pc' := 13) i191_12 rfl rfl <| ok_iadd (v := ((414 + (8 * x4)) + 4)) (pc' := 14) i191_13 rfl rfl <| ?_
    have z61 : 0 ≤ s ((414 + (8 * x4)) + 4) ∧ s ((414 + (8 * x4)) + 4) ≤ 9 := V_o4 hV (i := x4) (by omega) (by omega)
    refine ok_iaload (v := (s ((414 + (8 * x4)) + 4))) (pc' := 15) i191_14 (ShModel_k5 hSO) (by decide) (ShModel_l5 hSO) (by omega) (RepO_s hR9) rfl <| ok_ireti i191_15 rt191 <| kt_v (pc' := 93) rfl <| ?_
    refine ok_cge (pc1 := 198) (pc2 := 96) i229_93 (by omega) rfl rfl (fun h9 => by exfalso; omega) (fun h1 => ?_)
    refine ok_iloadn (pc' := 97) i229_96 rfl rfl <| ok_istore (pc' := 99) (ls' := [aR O, aI x1, aI x2, aI x3, aI x4, aI ((s (414 + (8 * x4))) + (s 1)), aI x6, aI x3, w8]) i229_97 (bt rfl) rfl rfl <| ?_
    refine w229_99 hSO hR9 hV hQ hF (fun k h8 h9 => by have := hB k h8 h9; omega) c1 (by omega) hw8 (fun M1 hF1 hN1 x7 w9 ls8 hw9 hls => ?_)
    subst hls
    have hR1 : RepO M1 O q s := RepO.fr hR9 ⟨by rw [hN1 O (by omega)], by rw [hN1 O (by omega)]⟩ (fun a h1 h2 => hN1 a (by omega))
    refine ok_iinc (pc' := 195) (v := (x6 + 1)) (ls' := [aR O, aI x1, aI x2, aI x3, aI x4, aI ((s (414 + (8 * x4))) + (s 1)), aI (x6 + 1), aI x7, w9]) i229_192 rfl rfl rfl rfl <| ok_goto (pc' := 84) i229_195 rfl <| ?_
    exact ih _ _ ⟨hF1, by rw [show 9 * x4 + (x6 + 1) = 9 * x4 + x6 + 1 by omega]; exact off_bd hB (by omega) (by omega), fun c hc => (hN1 c hc).trans (hN c hc), aI _, w9, rfl, hw9, rfl⟩
  · rintro x6 F ls M9 g1 g2 ⟨hF, hB, hN, w7, w8, hw7, hw8, rfl⟩
    have g3 : x6 = (s ((414 + (8 * x4)) + 4)) := by omega
    have hR9 : RepO M9 O q s := RepO.fr hRO ⟨by rw [hN O (by omega)], by rw [hN O (by omega)]⟩ (fun a h1 h2 => hN a (by omega))
    refine ok_iload (pc' := 86) i229_84 rfl rfl <| ok_aloadn (pc' := 87) i229_86 rfl rfl <| ok_iload (pc' := 89) i229_87 rfl rfl <| ok_iconst (pc' := 90) i229_89 rfl <| ok_cc i229_90 rfl (cl_v o229 m9_226 na191 rfl rfl (bt rfl) (bt rfl) rfl (by rw [ShModel_k0 hSO, o191])) ln191 (pd191 (aR O) (aI x4) (aI 4)) <| ok_aloadn (pc' := 1) i191_0 rfl rfl <| ok_getfr (r := (O + 5)) (pc' := 4) i191_1 o191 gr9_22 (ShModel_k0 hSO) (ShModel_r8 hSO) rfl <| ok_sipush (v := 414) (pc' := 7) i191_4 rfl rfl <| ?_
    refine ok_bipush (v := 8) (pc' := 9) i191_7 rfl rfl <| ok_iloadn (pc' := 10) i191_9 rfl rfl <| ok_imul (v := (8 * x4)) (pc' := 11) i191_10 rfl rfl <| ok_iadd (v := (414 + (8 * x4))) (pc' := 12) i191_11 rfl rfl <| ok_iloadn (pc' := 13) i191_12 rfl rfl <| ok_iadd (v := ((414 + (8 * x4)) + 4)) (pc' := 14) i191_13 rfl rfl <| ?_
    have z61 : 0 ≤ s ((414 + (8 * x4)) + 4) ∧ s ((414 + (8 * x4)) + 4) ≤ 9 := V_o4 hV (i := x4) (by omega) (by omega)
    refine ok_iaload (v := (s ((414 + (8 * x4)) + 4))) (pc' := 15) i191_14 (ShModel_k5 hSO) (by decide) (ShModel_l5 hSO) (by omega) (RepO_s hR9) rfl <| ok_ireti i191_15 rt191 <| kt_v (pc' := 93) rfl <| ?_
    refine ok_cge (pc1 := 198) (pc2 := 96) i229_93 (by omega) rfl rfl (fun h1 => ?_) (fun h9 => by exfalso; omega)
    exact K8 M9 F hF (fun k h8 h9 => by have h10 := hB k h8 h9; omega) hN g2.symm _ w7 w8 _ hw7 hw8 rfl
theorem w229_217 {d : Nat} {g : AG} {M : AM} {O : Nat} {F : Int → Int} {x1 x2 x3 : Int} {w5 w6 w7 w8 : AV} (hSO : ShModel g O) (hF : ∀ k : Int, 0 ≤ k → k ≤ x3 → M (O + 14) k = F k) (hB : Bd x3 200 F) (c1 : 0 ≤ x3 ∧ x3 ≤ 209) (c2 : 0 ≤ x2 ∧ x2 ≤ 200) (hL0 : M O 32 = x2) (hP0 : M O 33 = 0) (hw5 : am_cat w5 = 1) (hw6 : am_cat w6 = 1) (hw7 : am_cat w7 = 1) (hw8 : am_cat w8 = 1) :
    Ok (d + 1) 229 217 [aR O, aI x1, aI x2, aI x3, aI 1, w5, w6, w7, w8] [] g M (Rt none g (fun M9 => M9 O 32 = (pickS x2 x3 F).1 ∧ M9 O 33 = (pickS x2 x3 F).2 ∧ (∀ c, c ≠ O → M9 c = M c) ∧ ∀ y : Int, y ≠ 32 ∧ y ≠ 33 → M9 O y = M O y)) := by
  refine ok_for (lo := 1) (n := x3.toNat) (f := pickF x2 F) (a0 := (x2, 0)) (fun x4 a ls M9 => M9 O 32 = a.1 ∧ M9 O 33 = a.2 ∧ ((0 ≤ a.1 ∧ a.1 ≤ 200) ∧ (0 ≤ a.2 ∧ a.2 ≤ 200)) ∧ (∀ c, c ≠ O → M9 c = M c) ∧ (∀ y : Int, y ≠ 32 ∧ y ≠ 33 → M9 O y = M O y) ∧ ∃ w5 w6 w7 w8 : AV, am_cat w5 = 1 ∧ am_cat w6 = 1 ∧ am_cat w7 = 1 ∧ am_cat w8 = 1 ∧ ls = [aR O, aI x1, aI x2, aI x3, aI x4, w5, w6, w7, w8]) ?_ ?_ _ _ ⟨hL0, hP0, ⟨⟨c2.1, c2.2⟩, by show (0 : Int) ≤ 0 ∧ (0 : Int) ≤ 200; decide⟩, fun _ _ => rfl, fun _ _ => rfl, w5, w6, w7, w8, hw5, hw6, hw7, hw8, rfl⟩
  · rintro x4 ⟨a1, a2⟩ ls M9 g1 g2 ⟨hL, hP, hx, hN, hY, w5, w6, w7, w8, hw5, hw6, hw7, hw8, rfl⟩ ih
    dsimp only at hL hP hx
    have g3 : x4 < x3 + 1 := by omega
    refine ok_iload (pc' := 219) i229_217 rfl rfl <| ok_iloadn (pc' := 220) i229_219 rfl rfl <| ?_
    refine ok_cgt (pc1 := 299) (pc2 := 223) i229_220 (by omega) rfl rfl (fun h9 => by exfalso; omega) (fun h1 => ?_)
    refine ok_iconst (pc' := 224) i229_223 rfl <| ok_iloadn (pc' := 225) i229_224 rfl rfl <| ok_iload (pc' := 227) i229_225 rfl rfl <| ok_isub (v := (x2 - x4)) (pc' := 228) i229_227 rfl rfl <| ok_max (v := (max 0 (x2 - x4))) (pc' := 231) i229_228 o229 m9_254 (by omega) (bt rfl) rfl rfl <| ?_
    have z61 : 0 ≤ (max 0 (x2 - x4)) ∧ (x2 - x4) ≤ (max 0 (x2 - x4)) := by omega
    have z62 : (max 0 (x2 - x4)) ≤ 200 := by omega
    refine ok_istore (pc' := 233) (ls' := [aR O, aI x1, aI x2, aI x3, aI x4, aI (max 0 (x2 - x4)), w6, w7, w8]) i229_231 (bt rfl) rfl rfl <| ok_aloadn (pc' := 234) i229_233 rfl rfl <| ok_getfr (r := (O + 14)) (pc' := 237) i229_234 o229 gr9_57 (ShModel_k0 hSO) (ShModel_r31 hSO) rfl <| ok_iload (pc' := 239) i229_237 rfl rfl <| ?_
    have z63 : -1 ≤ (F x4) ∧ (F x4) ≤ 200 := by have h8 := hB x4 (by omega) (by omega); omega
    refine ok_iaload (v := (F x4)) (pc' := 240) i229_239 (ShModel_k14 hSO) (by decide) (ShModel_l14 hSO) (by omega) ((congrFun (hN (O + 14) (by omega)) _).trans (hF x4 (by omega) (by omega))) rfl <| ok_iconst (pc' := 241) i229_240 rfl <| ?_
    refine ok_ceq (pc1 := 293) (pc2 := 244) i229_241 (by omega) rfl rfl (fun h2 => ?_) (fun h2 => ?_)
    · refine ok_iinc (pc' := 296) (v := (x4 + 1)) (ls' := [aR O, aI x1, aI x2, aI x3, aI (x4 + 1), aI (max 0 (x2 - x4)), w6, w7, w8]) i229_293 rfl rfl rfl rfl <| ok_goto (pc' := 217) i229_296 rfl <| ?_
      have e : pickF x2 F x4 (a1, a2) = (a1, a2) := by unfold pickF; dsimp only; grind
      exact ih _ _ ⟨by rw [e]; exact hL, by rw [e]; exact hP, by rw [e]; exact hx, hN, hY, aI _, w6, w7, w8, rfl, hw6, hw7, hw8, rfl⟩
    · refine ok_iload (pc' := 246) i229_244 rfl rfl <| ok_aloadn (pc' := 247) i229_246 rfl rfl <| ok_getfi (v := a1) (pc' := 250) i229_247 o229 gi9_283 (ShModel_k0 hSO) hL rfl <| ?_
      refine ok_clt (pc1 := 276) (pc2 := 253) i229_250 (by omega) rfl rfl (fun h3 => ?_) (fun h3 => ?_)
      · refine ok_aloadn (pc' := 277) i229_276 rfl rfl <| ok_iload (pc' := 279) i229_277 rfl rfl <| ok_putfi (pc' := 282) i229_279 o229 pi229_283 (ShModel_k0 hSO) rfl <| ok_aloadn (pc' := 283) i229_282 rfl rfl <| ok_aloadn (pc' := 284) i229_283 rfl rfl <| ok_getfr (r := (O + 14)) (pc' := 287) i229_284 o229 gr9_57 (ShModel_k0 hSO) (ShModel_r31 hSO) rfl <| ok_iload (pc' := 289) i229_287 rfl rfl <| ok_iaload (v := (F x4)) (pc' := 290) i229_289 (ShModel_k14 hSO) (by decide) (ShModel_l14 hSO) (by omega) (rd_na (by omega) ((congrFun (hN (O + 14) (by omega)) _).trans (hF x4 (by omega) (by omega)))) rfl <| ?_
        refine ok_putfi (pc' := 293) i229_290 o229 pi229_286 (ShModel_k0 hSO) rfl <| ok_iinc (pc' := 296) (v := (x4 + 1)) (ls' := [aR O, aI x1, aI x2, aI x3, aI (x4 + 1), aI (max 0 (x2 - x4)), w6, w7, w8]) i229_293 rfl rfl rfl rfl <| ok_goto (pc' := 217) i229_296 rfl <| ?_
        have e : pickF x2 F x4 (a1, a2) = ((max 0 (x2 - x4)), (F x4)) := by unfold pickF; dsimp only; grind
        exact ih _ _ ⟨by rw [e]; exact (rd_ni (by decide) rd_eq), by rw [e]; exact rd_eq, by rw [e]; dsimp only; omega, fun c hcn => by rw [up2_na hcn, up2_na hcn]; exact hN c hcn, fun y hy => by rw [rd_ni (by omega) rfl, rd_ni (by omega) rfl]; exact hY y hy, aI _, w6, w7, w8, rfl, hw6, hw7, hw8, rfl⟩
      · refine ok_iload (pc' := 255) i229_253 rfl rfl <| ok_aloadn (pc' := 256) i229_255 rfl rfl <| ok_getfi (v := a1) (pc' := 259) i229_256 o229 gi9_283 (ShModel_k0 hSO) hL rfl <| ?_
        refine ok_cne (pc1 := 293) (pc2 := 262) i229_259 (by omega) rfl rfl (fun h4 => ?_) (fun h4 => ?_)
        · refine ok_iinc (pc' := 296) (v := (x4 + 1)) (ls' := [aR O, aI x1, aI x2, aI x3, aI (x4 + 1), aI (max 0 (x2 - x4)), w6, w7, w8]) i229_293 rfl rfl rfl rfl <| ok_goto (pc' := 217) i229_296 rfl <| ?_
          have e : pickF x2 F x4 (a1, a2) = (a1, a2) := by unfold pickF; dsimp only; grind
          exact ih _ _ ⟨by rw [e]; exact hL, by rw [e]; exact hP, by rw [e]; exact hx, hN, hY, aI _, w6, w7, w8, rfl, hw6, hw7, hw8, rfl⟩
        · refine ok_aloadn (pc' := 263) i229_262 rfl rfl <| ok_getfr (r := (O + 14)) (pc' := 266) i229_263 o229 gr9_57 (ShModel_k0 hSO) (ShModel_r31 hSO) rfl <| ok_iload (pc' := 268) i229_266 rfl rfl <| ok_iaload (v := (F x4)) (pc' := 269) i229_268 (ShModel_k14 hSO) (by decide) (ShModel_l14 hSO) (by omega) ((congrFun (hN (O + 14) (by omega)) _).trans (hF x4 (by omega) (by omega))) rfl <| ok_aloadn (pc' := 270) i229_269 rfl rfl <| ok_getfi (v := a2) (pc' := 273) i229_270 o229 gi9_286 (ShModel_k0 hSO) hP rfl <| ?_
          refine ok_cge (pc1 := 293) (pc2 := 276) i229_273 (by omega) rfl rfl (fun h5 => ?_) (fun h5 => ?_)
          · refine ok_iinc (pc' := 296) (v := (x4 + 1)) (ls' := [aR O, aI x1, aI x2, aI x3, aI (x4 + 1), aI (max 0 (x2 - x4)), w6, w7, w8]) i229_293 rfl rfl rfl rfl <| ok_goto (pc' := 217) i229_296 rfl <| ?_
            have e : pickF x2 F x4 (a1, a2) = (a1, a2) := by unfold pickF; dsimp only; grind
            exact ih _ _ ⟨by rw [e]; exact hL, by rw [e]; exact hP, by rw [e]; exact hx, hN, hY, aI _, w6, w7, w8, rfl, hw6, hw7, hw8, rfl⟩
          · refine ok_aloadn (pc' := 277) i229_276 rfl rfl <| ok_iload (pc' := 279) i229_277 rfl rfl <| ok_putfi (pc' := 282) i229_279 o229 pi229_283 (ShModel_k0 hSO) rfl <| ok_aloadn (pc' := 283) i229_282 rfl rfl <| ok_aloadn (pc' := 284) i229_283 rfl rfl <| ok_getfr (r := (O + 14)) (pc' := 287) i229_284 o229 gr9_57 (ShModel_k0 hSO) (ShModel_r31 hSO) rfl <| ok_iload (pc' := 289) i229_287 rfl rfl <| ok_iaload (v := (F x4)) (pc' := 290) i229_289 (ShModel_k14 hSO) (by decide) (ShModel_l14 hSO) (by omega) (rd_na (by omega) ((congrFun (hN (O + 14) (by omega)) _).trans (hF x4 (by omega) (by omega)))) rfl <| ?_
            refine ok_putfi (pc' := 293) i229_290 o229 pi229_286 (ShModel_k0 hSO) rfl <| ok_iinc (pc' := 296) (v := (x4 + 1)) (ls' := [aR O, aI x1, aI x2, aI x3, aI (x4 + 1), aI (max 0 (x2 - x4)), w6, w7, w8]) i229_293 rfl rfl rfl rfl <| ok_goto (pc' := 217) i229_296 rfl <| ?_
            have e : pickF x2 F x4 (a1, a2) = ((max 0 (x2 - x4)), (F x4)) := by unfold pickF; dsimp only; grind
            exact ih _ _ ⟨by rw [e]; exact (rd_ni (by decide) rd_eq), by rw [e]; exact rd_eq, by rw [e]; dsimp only; omega, fun c hcn => by rw [up2_na hcn, up2_na hcn]; exact hN c hcn, fun y hy => by rw [rd_ni (by omega) rfl, rd_ni (by omega) rfl]; exact hY y hy, aI _, w6, w7, w8, rfl, hw6, hw7, hw8, rfl⟩
  · rintro x4 ⟨a1, a2⟩ ls M9 g1 g2 ⟨hL, hP, hx, hN, hY, w5, w6, w7, w8, hw5, hw6, hw7, hw8, rfl⟩
    dsimp only at hL hP hx
    have g3 : x4 = x3 + 1 := by omega
    refine ok_iload (pc' := 219) i229_217 rfl rfl <| ok_iloadn (pc' := 220) i229_219 rfl rfl <| ?_
    refine ok_cgt (pc1 := 299) (pc2 := 223) i229_220 (by omega) rfl rfl (fun h1 => ?_) (fun h9 => by exfalso; omega)
    refine ok_vret i229_299 rt229 <| ?_
    exact ⟨rfl, rfl, by unfold pickS; rw [g2]; exact hL, by unfold pickS; rw [g2]; exact hP, hN, hY⟩
theorem w229_54 {d : Nat} {g : AG} {M : AM} {O : Nat} {s q : Int → Int} {b : Int} {x1 x2 x3 : Int} {w5 w6 w7 w8 : AV} (hSO : ShModel g O) (hRO : RepO M O q s) (hV : Val b q s) (hQ : ValQ q) (hF0 : ∀ k : Int, 0 ≤ k → k ≤ x3 → M (O + 14) k = packI k) (c1 : 0 ≤ x3 ∧ x3 ≤ 209) (c2 : 0 ≤ x2 ∧ x2 ≤ 200) (hw5 : am_cat w5 = 1) (hw6 : am_cat w6 = 1) (hw7 : am_cat w7 = 1) (hw8 : am_cat w8 = 1) :
    Ok (d + 1) 229 54 [aR O, aI x1, aI x2, aI x3, aI 0, w5, w6, w7, w8] [] g M (Rt none g (fun M9 => M9 O 32 = (pickS x2 x3 (packS s x3)).1 ∧ M9 O 33 = (pickS x2 x3 (packS s x3)).2 ∧ (∀ c, c ≠ O ∧ c ≠ O + 14 → M9 c = M c) ∧ ∀ y : Int, y ≠ 32 ∧ y ≠ 33 → M9 O y = M O y)) := by
  have y4 := V_4 hV
  have y1 := V_1 hV
  refine ok_for (lo := 0) (n := (s 4).toNat) (f := fun o F => packO s x3 o F) (a0 := packI) (fun x4 F ls M9 => (∀ k : Int, 0 ≤ k → k ≤ x3 → M9 (O + 14) k = F k) ∧ Bd x3 (9 * x4) F ∧ (∀ c, c ≠ O + 14 → M9 c = M c) ∧ ∃ w5 w6 w7 w8 : AV, am_cat w5 = 1 ∧ am_cat w6 = 1 ∧ am_cat w7 = 1 ∧ am_cat w8 = 1 ∧ ls = [aR O, aI x1, aI x2, aI x3, aI x4, w5, w6, w7, w8]) ?_ ?_ _ _ ⟨hF0, by intro k h0 h1; unfold packI; split <;> omega, fun _ _ => rfl, w5, w6, w7, w8, hw5, hw6, hw7, hw8, rfl⟩
  · rintro x4 F ls M9 g1 g2 ⟨hF, hB, hN, w5, w6, w7, w8, hw5, hw6, hw7, hw8, rfl⟩ ih
    have g3 : x4 < s 4 := by omega
    have hR9 : RepO M9 O q s := RepO.fr hRO ⟨by rw [hN O (by omega)], by rw [hN O (by omega)]⟩ (fun a h1 h2 => hN a (by omega))
    refine ok_iload (pc' := 56) i229_54 rfl rfl <| ok_aloadn (pc' := 57) i229_56 rfl rfl <| ok_getfr (r := (O + 5)) (pc' := 60) i229_57 o229 gr9_22 (ShModel_k0 hSO) (ShModel_r8 hSO) rfl <| ok_iconst (pc' := 61) i229_60 rfl <| ok_iaload (v := (s 4)) (pc' := 62) i229_61 (ShModel_k5 hSO) (by decide) (ShModel_l5 hSO) (by decide) (RepO_s hR9) rfl <| ?_
    refine ok_cge (pc1 := 204) (pc2 := 65) i229_62 (by omega) rfl rfl (fun h9 => by exfalso; omega) (fun h1 => ?_)
    refine ok_aloadn (pc' := 66) i229_65 rfl rfl <| ok_iload (pc' := 68) i229_66 rfl rfl <| ok_iconst (pc' := 69) i229_68 rfl <| ok_cc i229_69 rfl (cl_v o229 m9_226 na191 rfl rfl (bt rfl) (bt rfl) rfl (by rw [ShModel_k0 hSO, o191])) ln191 (pd191 (aR O) (aI x4) (aI 0)) <| ok_aloadn (pc' := 1) i191_0 rfl rfl <| ok_getfr (r := (O + 5)) (pc' := 4) i191_1 o191 gr9_22 (ShModel_k0 hSO) (ShModel_r8 hSO) rfl <| ok_sipush (v := 414) (pc' := 7) i191_4 rfl rfl <| ok_bipush (v := 8) (pc' := 9) i191_7 rfl rfl <| ?_
    refine ok_iloadn (pc' := 10) i191_9 rfl rfl <| ok_imul (v := (8 * x4)) (pc' := 11) i191_10 rfl rfl <| ok_iadd (v := (414 + (8 * x4))) (pc' := 12) i191_11 rfl rfl <| ok_iloadn (pc' := 13) i191_12 rfl rfl <| ok_iadd (v := (414 + (8 * x4))) (pc' := 14) i191_13 (by omega) rfl <| ?_
    have z61 : 1 ≤ s (414 + (8 * x4)) ∧ s (414 + (8 * x4)) ≤ 200 := V_o0 hV (i := x4) (by omega) (by omega)
    refine ok_iaload (v := (s (414 + (8 * x4)))) (pc' := 15) i191_14 (ShModel_k5 hSO) (by decide) (ShModel_l5 hSO) (by omega) (RepO_s hR9) rfl <| ok_ireti i191_15 rt191 <| kt_v (pc' := 72) rfl <| ok_aloadn (pc' := 73) i229_72 rfl rfl <| ok_getfr (r := (O + 5)) (pc' := 76) i229_73 o229 gr9_22 (ShModel_k0 hSO) (ShModel_r8 hSO) rfl <| ok_iconst (pc' := 77) i229_76 rfl <| ok_iaload (v := (s 1)) (pc' := 78) i229_77 (ShModel_k5 hSO) (by decide) (ShModel_l5 hSO) (by decide) (RepO_s hR9) rfl <| ok_iadd (v := ((s (414 + (8 * x4))) + (s 1))) (pc' := 79) i229_78 rfl rfl <| ?_
    refine ok_istore (pc' := 81) (ls' := [aR O, aI x1, aI x2, aI x3, aI x4, aI ((s (414 + (8 * x4))) + (s 1)), w6, w7, w8]) i229_79 (bt rfl) rfl rfl <| ok_iconst (pc' := 82) i229_81 rfl <| ok_istore (pc' := 84) (ls' := [aR O, aI x1, aI x2, aI x3, aI x4, aI ((s (414 + (8 * x4))) + (s 1)), aI 0, w7, w8]) i229_82 (bt rfl) rfl rfl <| ?_
    refine w229_84 hSO hR9 hV hQ hF hB c1 ⟨by omega, by omega⟩ hw7 hw8 (fun M1 F1 hF1 hB1 hN1 e1 x6 w9 w10 ls8 hw9 hw10 hls => ?_)
    subst hls
    have hR1 : RepO M1 O q s := RepO.fr hR9 ⟨by rw [hN1 O (by omega)], by rw [hN1 O (by omega)]⟩ (fun a h1 h2 => hN1 a (by omega))
    refine ok_iinc (pc' := 201) (v := (x4 + 1)) (ls' := [aR O, aI x1, aI x2, aI x3, aI (x4 + 1), aI ((s (414 + (8 * x4))) + (s 1)), aI x6, w9, w10]) i229_198 rfl rfl rfl rfl <| ok_goto (pc' := 54) i229_201 rfl <| ?_
    exact ih _ _ ⟨by rw [← e1]; exact hF1, by rw [show 9 * (x4 + 1) = 9 * x4 + 9 by omega, ← e1]; exact hB1, fun c hc => (hN1 c hc).trans (hN c hc), aI _, aI _, w9, w10, rfl, rfl, hw9, hw10, rfl⟩
  · rintro x4 F ls M9 g1 g2 ⟨hF, hB, hN, w5, w6, w7, w8, hw5, hw6, hw7, hw8, rfl⟩
    have g3 : x4 = s 4 := by omega
    have hR9 : RepO M9 O q s := RepO.fr hRO ⟨by rw [hN O (by omega)], by rw [hN O (by omega)]⟩ (fun a h1 h2 => hN a (by omega))
    refine ok_iload (pc' := 56) i229_54 rfl rfl <| ok_aloadn (pc' := 57) i229_56 rfl rfl <| ok_getfr (r := (O + 5)) (pc' := 60) i229_57 o229 gr9_22 (ShModel_k0 hSO) (ShModel_r8 hSO) rfl <| ok_iconst (pc' := 61) i229_60 rfl <| ok_iaload (v := (s 4)) (pc' := 62) i229_61 (ShModel_k5 hSO) (by decide) (ShModel_l5 hSO) (by decide) (RepO_s hR9) rfl <| ?_
    refine ok_cge (pc1 := 204) (pc2 := 65) i229_62 (by omega) rfl rfl (fun h1 => ?_) (fun h9 => by exfalso; omega)
    refine ok_aloadn (pc' := 205) i229_204 rfl rfl <| ok_iloadn (pc' := 206) i229_205 rfl rfl <| ok_putfi (pc' := 209) i229_206 o229 pi229_283 (ShModel_k0 hSO) rfl <| ok_aloadn (pc' := 210) i229_209 rfl rfl <| ok_iconst (pc' := 211) i229_210 rfl <| ok_putfi (pc' := 214) i229_211 o229 pi229_286 (ShModel_k0 hSO) rfl <| ok_iconst (pc' := 215) i229_214 rfl <| ok_istore (pc' := 217) (ls' := [aR O, aI x1, aI x2, aI x3, aI 1, w5, w6, w7, w8]) i229_215 (bt rfl) rfl rfl <| ?_
    have e9 : F = packS s x3 := g2.symm
    have h9 := w229_217 (F := F) (d := d) (g := g) (M := (up2 (up2 M9 O 32 x2) O 33 0)) (x1 := x1) (x2 := x2) hSO (fun k h8 h9 => by rw [up2_na (by omega), up2_na (by omega)]; exact hF k h8 h9) (fun k h8 h9 => by have := hB k h8 h9; omega) c1 c2 (rd_ni (by decide) rd_eq) rd_eq hw5 hw6 hw7 hw8
    rw [e9] at h9
    exact h9.mono (fun o g1 M1 h => ⟨h.1, h.2.1, h.2.2.1, h.2.2.2.1, fun c hc => by rw [h.2.2.2.2.1 c hc.1, up2_na hc.1, up2_na hc.1]; exact hN c hc.2, fun y hy => by rw [h.2.2.2.2.2 y hy, rd_ni hy.2 rfl, rd_ni hy.1 rfl, hN O (by omega)]⟩)
theorem t229 {g : AG} {M : AM} {O : Nat} {s q : Int → Int} {b : Int} {x1 : Int} (hSO : ShModel g O) (hRO : RepO M O q s) (hV : Val b q s) (hQ : ValQ q) (h1 : 0 ≤ x1 ∧ x1 < s 3) :
    Ok 1 229 0 [aR O, aI x1, aU, aU, aU, aU, aU, aU, aU] [] g M (Rt none g (fun M9 => M9 O 32 = (bestS s x1).1 ∧ M9 O 33 = (bestS s x1).2 ∧ (∀ c, c ≠ O ∧ c ≠ O + 14 → M9 c = M c) ∧ ∀ y : Int, y ≠ 32 ∧ y ≠ 33 → M9 O y = M O y)) := by
  have y4 := V_4 hV
  have y1 := V_1 hV
  have ys3 : 0 ≤ s 3 ∧ s 3 ≤ 80 := V_3 hV
  have ys4 : 0 ≤ s 4 ∧ s 4 ≤ 16 := V_4 hV
  have yq0 : 0 ≤ q 0 ∧ q 0 ≤ 4 := Q_0 hQ
  have yq1 : 0 ≤ q 1 ∧ q 1 ≤ 6 := Q_1 hQ
  refine ok_aloadn (pc' := 1) i229_0 rfl rfl <| ok_getfr (r := (O + 5)) (pc' := 4) i229_1 o229 gr9_22 (ShModel_k0 hSO) (ShModel_r8 hSO) rfl <| ok_bipush (v := 94) (pc' := 6) i229_4 rfl rfl <| ok_iloadn (pc' := 7) i229_6 rfl rfl <| ok_iadd (v := (94 + x1)) (pc' := 8) i229_7 rfl rfl <| ?_
  have z1 : 0 ≤ s (94 + x1) ∧ s (94 + x1) ≤ 200 := V_d1 hV (i := x1) (by omega) (by omega)
  refine ok_iaload (v := (s (94 + x1))) (pc' := 9) i229_8 (ShModel_k5 hSO) (by decide) (ShModel_l5 hSO) (by omega) (RepO_s hRO) rfl <| ok_istoren (pc' := 10) (ls' := [aR O, aI x1, aI (s (94 + x1)), aU, aU, aU, aU, aU, aU]) i229_9 (bt rfl) rfl rfl <| ok_iloadn (pc' := 11) i229_10 rfl rfl <| ok_aloadn (pc' := 12) i229_11 rfl rfl <| ok_getfr (r := (O + 5)) (pc' := 15) i229_12 o229 gr9_22 (ShModel_k0 hSO) (ShModel_r8 hSO) rfl <| ok_iconst (pc' := 16) i229_15 rfl <| ?_
  have z2 : 0 ≤ s 1 ∧ s 1 ≤ 9 := V_1 hV
  refine ok_iaload (v := (s 1)) (pc' := 17) i229_16 (ShModel_k5 hSO) (by decide) (ShModel_l5 hSO) (by decide) (RepO_s hRO) rfl <| ok_iadd (v := ((s (94 + x1)) + (s 1))) (pc' := 18) i229_17 rfl rfl <| ok_istoren (pc' := 19) (ls' := [aR O, aI x1, aI (s (94 + x1)), aI ((s (94 + x1)) + (s 1)), aU, aU, aU, aU, aU]) i229_18 (bt rfl) rfl rfl <| ok_iconst (pc' := 20) i229_19 rfl <| ok_istore (pc' := 22) (ls' := [aR O, aI x1, aI (s (94 + x1)), aI ((s (94 + x1)) + (s 1)), aI 0, aU, aU, aU, aU]) i229_20 (bt rfl) rfl rfl <| ?_
  obtain ⟨x3, hx3⟩ : ∃ u9 : Int, u9 = ((s (94 + x1)) + (s 1)) := ⟨_, rfl⟩
  rw [← hx3]
  have c1 : 0 ≤ x3 ∧ x3 ≤ 209 := by omega
  refine ok_for (σ := Unit) (lo := 0) (n := (x3 + 1).toNat) (f := fun _ a => a) (a0 := ()) (fun x4 _ ls M9 => (∀ k : Int, 0 ≤ k → k < x4 → M9 (O + 14) k = packI k) ∧ (∀ c, c ≠ O + 14 → M9 c = M c) ∧ ls = [aR O, aI x1, aI (s (94 + x1)), aI x3, aI x4, aU, aU, aU, aU]) ?_ ?_ _ _ ⟨fun k h8 h9 => by omega, fun _ _ => rfl, rfl⟩
  · rintro x4 _ ls M9 g1 g2 ⟨hF, hN, rfl⟩ ih
    have g3 : x4 < x3 + 1 := by omega
    have hR9 : RepO M9 O q s := RepO.fr hRO ⟨by rw [hN O (by omega)], by rw [hN O (by omega)]⟩ (fun a h1 h2 => hN a (by omega))
    refine ok_iload (pc' := 24) i229_22 rfl rfl <| ok_iloadn (pc' := 25) i229_24 rfl rfl <| ?_
    refine ok_cgt (pc1 := 51) (pc2 := 28) i229_25 (by omega) rfl rfl (fun h9 => by exfalso; omega) (fun h1 => ?_)
    refine ok_aloadn (pc' := 29) i229_28 rfl rfl <| ok_getfr (r := (O + 14)) (pc' := 32) i229_29 o229 gr9_57 (ShModel_k0 hSO) (ShModel_r31 hSO) rfl <| ok_iload (pc' := 34) i229_32 rfl rfl <| ok_iload (pc' := 36) i229_34 rfl rfl <| ?_
    refine ok_zne (pc1 := 43) (pc2 := 39) i229_36 (by omega) rfl rfl (fun h2 => ?_) (fun h2 => ?_)
    · refine ok_iconst (pc' := 44) i229_43 rfl <| ok_iastore (pc' := 45) i229_44 (ShModel_k14 hSO) (ShModel_l14 hSO) (by omega) rfl <| ok_iinc (pc' := 48) (v := (x4 + 1)) (ls' := [aR O, aI x1, aI (s (94 + x1)), aI x3, aI (x4 + 1), aU, aU, aU, aU]) i229_45 rfl rfl rfl rfl <| ok_goto (pc' := 22) i229_48 rfl <| ?_
      refine ih _ _ ⟨fun k h8 h9 => ?_, fun c hc => by rw [up2_na hc]; exact hN c hc, rfl⟩
      by_cases hk : k = x4
      · rw [rd_eq' hk, hk]
        unfold packI
        split <;> omega
      · rw [rd_ni hk rfl]
        exact hF k h8 (by omega)
    · refine ok_iconst (pc' := 40) i229_39 rfl <| ok_goto (pc' := 44) i229_40 rfl <| ok_iastore (pc' := 45) i229_44 (ShModel_k14 hSO) (ShModel_l14 hSO) (by omega) rfl <| ok_iinc (pc' := 48) (v := (x4 + 1)) (ls' := [aR O, aI x1, aI (s (94 + x1)), aI x3, aI (x4 + 1), aU, aU, aU, aU]) i229_45 rfl rfl rfl rfl <| ok_goto (pc' := 22) i229_48 rfl <| ?_
      refine ih _ _ ⟨fun k h8 h9 => ?_, fun c hc => by rw [up2_na hc]; exact hN c hc, rfl⟩
      by_cases hk : k = x4
      · rw [rd_eq' hk, hk]
        unfold packI
        split <;> omega
      · rw [rd_ni hk rfl]
        exact hF k h8 (by omega)
  · rintro x4 _ ls M9 g1 g2 ⟨hF, hN, rfl⟩
    have g3 : x4 = x3 + 1 := by omega
    have hR9 : RepO M9 O q s := RepO.fr hRO ⟨by rw [hN O (by omega)], by rw [hN O (by omega)]⟩ (fun a h1 h2 => hN a (by omega))
    refine ok_iload (pc' := 24) i229_22 rfl rfl <| ok_iloadn (pc' := 25) i229_24 rfl rfl <| ?_
    refine ok_cgt (pc1 := 51) (pc2 := 28) i229_25 (by omega) rfl rfl (fun h1 => ?_) (fun h9 => by exfalso; omega)
    refine ok_iconst (pc' := 52) i229_51 rfl <| ok_istore (pc' := 54) (ls' := [aR O, aI x1, aI (s (94 + x1)), aI x3, aI 0, aU, aU, aU, aU]) i229_52 (bt rfl) rfl rfl <| ?_
    have h9 := w229_54 (d := 0) (x1 := x1) (x2 := (s (94 + x1))) (w5 := aU) (w6 := aU) (w7 := aU) (w8 := aU) hSO hR9 hV hQ (fun k h8 h9 => hF k h8 (by omega)) c1 (by omega) rfl rfl rfl rfl
    exact h9.mono (fun o g1 M1 h => ⟨h.1, h.2.1, by unfold bestS; rw [← hx3]; exact h.2.2.1, by unfold bestS; rw [← hx3]; exact h.2.2.2.1, fun c hc => (h.2.2.2.2.1 c hc).trans (hN c hc.2), fun y hy => by rw [h.2.2.2.2.2 y hy, hN O (by omega)]⟩)
