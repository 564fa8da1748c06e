/-! FILL: the whole (by program, wip/p60/gen) -/
theorem rt220 : am_rt 220 = some .int := by decide +kernel
theorem w220_135 {g : AG} {M : AM} {O : Nat} {A : YA} {s q : Int → Int} {b : Int} {x1 bf y : Int} {w5 w6 w7 w8 w9 : AV} (hY : Yd g M O A s q) (hV : Val b q s) (hO : O + 348 ≤ 100 + gN g) (hy : 0 ≤ y ∧ y ≤ 2) (hw5 : am_cat w5 = 1) (hw6 : am_cat w6 = 1) (hw7 : am_cat w7 = 1) (hw8 : am_cat w8 = 1) (hw9 : am_cat w9 = 1) : Ok 2 220 135 [aR 101, aI x1, aI bf, aI y, aI 1, w5, w6, w7, w8, w9] [] g M (fun o g1 M1 => Yd g1 M1 O A (fillS q s y) q ∧ Fr (FY O) 2700 3100 g M g1 M1 ∧ o = .inl (some (aI (fillS q s y 11 - bf)))) := by
  refine ok_lp (σ := Int × (Int → Int)) (fun z ls g9 M9 => 0 ≤ z.1 ∧ itx (fillF q y) s 0 z.1.toNat = .inl z.2 ∧ Val b q z.2 ∧ r20 z.2 = r20 s - z.1 ∧ Yd g9 M9 O A z.2 q ∧ Fr (FY O) (18 * z.1.toNat) (21 * z.1.toNat) g M g9 M9 ∧ ∃ w5 w6 w7 w8 w9 : AV, am_cat w5 = 1 ∧ am_cat w6 = 1 ∧ am_cat w7 = 1 ∧ am_cat w8 = 1 ∧ am_cat w9 = 1 ∧ ls = [aR 101, aI x1, aI bf, aI y, aI 1, w5, w6, w7, w8, w9]) (fun z => (r20 z.2).toNat) ?_ (0, s) _ g M ⟨Int.le_refl 0, rfl, hV, by show r20 s = r20 s - 0; omega, hY, Fr.rfl, w5, w6, w7, w8, w9, hw5, hw6, hw7, hw8, hw9, rfl⟩
  rintro ⟨i, t⟩ ls g9 M9 ⟨hi0, hitx, hVt, hr20, hYt, hfr, w5, w6, w7, w8, w9, hw5, hw6, hw7, hw8, hw9, rfl⟩ ih
  dsimp only at *
  have hn9 := hfr.n
  have hi4 : i ≤ 144 := by
    have h1 := r20_rg hVt
    have h2 := r20_rg hV
    omega
  have hQ := V_q hVt
  have y3 := V_3 hVt
  have y4 := V_4 hVt
  have y5 := V_5 hVt
  have yq0 := Q_0 hQ
  have yq1 := Q_1 hQ
  have hI := (i241_fst (y := y) hVt).rg (by omega)
  have e0 : Fr (FY O) 0 0 g9 M9 g9 M9 := Fr.rfl
  refine ok_iload (pc' := 137) i220_135 rfl rfl <| ok_kz0 (pc1 := 294) (pc2 := 140) i220_137 (by decide) rfl rfl <| ok_null (pc' := 141) i220_140 rfl <| ok_astore (pc' := 143) (ls' := [aR 101, aI x1, aI bf, aI y, aI 1, aR 0, w6, w7, w8, w9]) i220_141 (bt rfl) rfl rfl <| ok_aloadn (pc' := 144) i220_143 rfl rfl <| ok_getfi (v := (t 4)) (pc' := 147) i220_144 o220 gi17_100 (hYt.gr.ky) ((Yd.n4 hYt)) rfl <| ok_iconst (pc' := 148) i220_147 rfl <| ok_isub (v := ((t 4) - 1)) (pc' := 149) i220_148 rfl rfl <| ?_
  refine ok_istore (pc' := 151) (ls' := [aR 101, aI x1, aI bf, aI y, aI 1, aR 0, aI ((t 4) - 1), w7, w8, w9]) i220_149 (bt rfl) rfl rfl <| ?_
  refine w220_151 hYt hVt hy hw7 hw8 hw9 (fun g5 M5 w7 hw7 hY5 f5 => ?_)
  have n5 := f5.n
  have fy5 : Fr (FY O) 16 16 g9 M9 g5 M5 := f5.of0
  refine ok_aload (pc' := 245) i220_243 rfl rfl <| ?_
  by_cases u71 : (i241 t y) = -1
  · rw [show nulR A.D (i241 t y) = 0 by rw [u71, nulR_0]]
    refine ok_ifnull1 (pc1 := 252) i220_245 rfl <| ok_iconst (pc' := 253) i220_252 rfl <| ok_istore (pc' := 255) (ls' := [aR 101, aI x1, aI bf, aI y, aI 0, aR 0, aI (-1), w7, w8, w9]) i220_253 (bt rfl) rfl rfl <| ok_iload (pc' := 257) i220_255 rfl rfl <| ok_kz1 (pc1 := 288) (pc2 := 260) i220_257 (by decide) rfl rfl <| ok_iconst (pc' := 289) i220_288 rfl <| ok_istore (pc' := 291) (ls' := [aR 101, aI x1, aI bf, aI y, aI 0, aR 0, aI 0, w7, w8, w9]) i220_289 (bt rfl) rfl rfl <| ok_goto (pc' := 135) i220_291 rfl <| ?_
    refine ok_iload (pc' := 137) i220_135 rfl rfl <| ok_kz1 (pc1 := 294) (pc2 := 140) i220_137 (by decide) rfl rfl <| ok_aloadn (pc' := 295) i220_294 rfl rfl <| ok_getfr (r := 110) (pc' := 298) i220_295 o220 gr17_47 (hY5.gr.ky) (hY5.gr.r7) rfl <| ok_iconst (pc' := 299) i220_298 rfl <| ok_iaload (v := (t 11)) (pc' := 300) i220_299 (hY5.gr.ka) (by decide) (hY5.gr.la) (by decide) ((Yd.acz hY5 (i := 5) (z := 11) (by omega) (by omega) (by omega))) rfl <| ok_iloadn (pc' := 301) i220_300 rfl rfl <| ok_isub (v := ((t 11) - bf)) (pc' := 302) i220_301 rfl rfl <| ?_
    refine ok_ireti i220_302 rt220 <| ?_
    have h47 : r47 t y = -1 := (i241_47 hVt).1.1 (by omega)
    have hend := fill_end hVt h47 ⟨hi0, hi4⟩ hitx
    have hS : fillS q s y = t := by unfold fillS; rw [hend]
    rw [hS]
    exact ⟨hY5, Fr.w (Fr.trans hfr fy5) (by omega) (by omega), rfl⟩
  · rw [show nulR A.D (i241 t y) = A.D (i241 t y) from nulR_1 u71]
    have z72 : 0 ≤ (i241 t y) ∧ (i241 t y) < t 4 := by omega
    refine ok_ifnull0 (pc1 := 248) i220_245 (Or.inl (Nat.le_trans (by decide) (hY5.gr.dd (i241 t y) (by omega) (by omega)).2.1.1)) (by decide) rfl <| ok_iconst (pc' := 249) i220_248 rfl <| ok_goto (pc' := 253) i220_249 rfl <| ok_istore (pc' := 255) (ls' := [aR 101, aI x1, aI bf, aI y, aI 1, aR (A.D (i241 t y)), aI (-1), w7, w8, w9]) i220_253 (bt rfl) rfl rfl <| ok_iload (pc' := 257) i220_255 rfl rfl <| ok_kz0 (pc1 := 288) (pc2 := 260) i220_257 (by decide) rfl rfl <| ok_aloadn (pc' := 261) i220_260 rfl rfl <| ok_aloadn (pc' := 262) i220_261 rfl rfl <| ?_
    refine ok_iconst (pc' := 263) i220_262 rfl <| ?_
    refine ok_nia (pc' := 265) i220_263 (by decide) rfl (fun xr73 g73 M73 hx73 hn73 hA73 e73 => ?_)
    have hYa73 := Yd.f0 hY5 e73
    have f73 := Fr.trans fy5 (Fr.of0 e73)
    have hl73 : xr73 < 100 + gN g73 := by omega
    refine ok_dup (pc' := 266) i220_265 rfl rfl <| ok_iconst (pc' := 267) i220_266 rfl <| ok_aload (pc' := 269) i220_267 rfl rfl <| ?_
    have z74 : 1 ≤ t (414 + (8 * (i241 t y))) ∧ t (414 + (8 * (i241 t y))) ≤ 200 := V_o0 hVt (by omega) (by omega)
    refine ok_getfi (v := (t (414 + (8 * (i241 t y))))) (pc' := 272) i220_269 o220 gi17_148 ((hYa73.gr.dd (i241 t y) (by omega) (by omega)).2.2) ((Yd.d1 hYa73 (k := (i241 t y)) (by omega) (by omega))) rfl <| ?_
    have b75 := hA73.2.1
    refine ok_iastore (pc' := 273) i220_272 (hA73.1) (rfl) (by omega) rfl <| ?_
    have e76 := Fr.up (x := 0) (v := (t (414 + (8 * (i241 t y))))) e73 (Or.inr (Nat.le_of_eq hx73))
    have hYa76 := Yd.f0 hY5 e76
    have f76 := Fr.trans fy5 (Fr.of0 e76)
    have hA76 := IA.up (x := 0) (v := (t (414 + (8 * (i241 t y))))) hA73
    refine ok_iloadn (pc' := 274) i220_273 rfl rfl <| ?_
    have hne : i241 t y ≠ -1 := by omega
    have hlen := (i241_47 hVt).2 hne
    have h47 : r47 t y ≠ -1 := fun h => hne ((i241_47 hVt).1.2 h)
    have hpn := p_next hVt h47
    have hvs := V_step hVt h47
    have hgo := fill_go hVt h47 hi0 hitx
    rw [← hlen] at hpn
    refine ok_cc i220_274 rfl (cl_v o220 m17_190 na199 rfl rfl (bt rfl) (bt rfl) rfl (by rw [hYa76.gr.ky, o199])) ln199 (pd199 (aR 101) (aR xr73) (aI y)) <| (Ok.deep (t199 (x2 := y) hYa76 hVt hA76 (RowV1 ⟨by omega, by omega⟩) ⟨by omega, by omega⟩) (by omega)).mono (fun o9 g7c M7c p7c => ?_)
    obtain ⟨eg7, em7, a7r, hF7, rfl⟩ := p7c
    have hG7 := rf_34 (p := y) hVt (f := (upI (fun _ => 0) 0 (t (414 + (8 * (i241 t y)))))) (x := (t (414 + (8 * (i241 t y))))) upI_eq (by omega) ⟨by omega, by omega⟩
    rw [eg7, em7, Fst.uniq (by omega) hF7 hG7]
    have hH7 := hG7.rg (by omega)
    rw [nulR_1 (show (r34 t (t (414 + (8 * (i241 t y)))) y) ≠ -1 by omega)]
    have hr34 : 0 ≤ (r34 t (t (414 + (8 * (i241 t y)))) y) ∧ (r34 t (t (414 + (8 * (i241 t y)))) y) < t 3 := by omega
    refine kt_v (pc' := 277) rfl <| ok_aload (pc' := 279) i220_277 rfl rfl <| ok_getfi (v := (t (414 + (8 * (i241 t y))))) (pc' := 282) i220_279 o220 gi17_148 ((hYa76.gr.dd (i241 t y) (by omega) (by omega)).2.2) ((Yd.d1 hYa76 (k := (i241 t y)) (by omega) (by omega))) rfl <| ?_
    refine ok_cc i220_282 rfl (cl_v o220 m17_198 na203 rfl rfl (bt rfl) (bt rfl) rfl (by rw [hYa76.gr.ky, o203])) ln203 (pd203 (aR 101) (aR (A.R (r34 t (t (414 + (8 * (i241 t y)))) y))) (aI (t (414 + (8 * (i241 t y)))))) <| (Ok.deep (t203 (x := (t (414 + (8 * (i241 t y))))) hYa76 hVt (by have := hO; omega) ⟨by omega, by omega⟩ ⟨by omega, by omega⟩) (by omega)).mono (fun o9 g8c M8c p8c => ?_)
    obtain ⟨rfl, hY8c, f8c⟩ := p8c
    refine kt_v (pc' := 285) rfl <| ok_goto (pc' := 289) i220_285 rfl <| ok_istore (pc' := 291) (ls' := [aR 101, aI x1, aI bf, aI y, aI 1, aR (A.D (i241 t y)), aI (r218 t (t (414 + (8 * (i241 t y))))), w7, w8, w9]) i220_289 (bt rfl) rfl rfl <| ok_goto (pc' := 135) i220_291 rfl <| ?_
    rw [show cutS q t (r34 t (t (414 + (8 * (i241 t y)))) y) (t (414 + (8 * (i241 t y)))) = stepS q t y by unfold stepS; rw [← hlen]] at hY8c
    refine ih (i + 1, stepS q t y) _ _ _ (by have h8 := r20_rg hvs.1; have h9 := r20_rg hVt; show (r20 (stepS q t y)).toNat < (r20 t).toNat; omega) ⟨by show 0 ≤ i + 1; omega, hgo, hvs.1, by show r20 (stepS q t y) = r20 s - (i + 1); omega, hY8c, ?_, _, _, _, _, _, rfl, rfl, hw7, hw8, hw9, rfl⟩
    rw [show (i + 1, stepS q t y).1.toNat = i.toNat + 1 by show (i + 1).toNat = _; omega]
    exact Fr.w (Fr.trans (Fr.trans hfr (Fr.trans fy5 (Fr.of0 e76))) f8c) (by omega) (by omega)
theorem t220_3 {g : AG} {M : AM} {O : Nat} {A : YA} {s q : Int → Int} {b : Int} (hY : Yd g M O A s q) (hV : Val b q s) (hO : O + 348 ≤ 100 + gN g) : Ok 2 220 0 [aR 101, aI 3, aU, aU, aU, aU, aU, aU, aU, aU] [] g M (fun o g1 M1 => o = .inl (some (aI (fulN q s 3))) ∧ Yd g1 M1 O A (fulS q s 3) q ∧ Fr (FY O) 8800 198800 g M g1 M1) := by
  have hQ := V_q hV
  have y3 := V_3 hV
  have y4 := V_4 hV
  have y5 := V_5 hV
  have yq0 := Q_0 hQ
  have yq1 := Q_1 hQ
  have hAf := ful_aft hV 3
  have hS3 : fulS q s 3 = fillS q (pfS q s) 1 := if_pos rfl
  have e0 : Fr (FY O) 0 0 g M g M := Fr.rfl
  refine ok_aloadn (pc' := 1) i220_0 rfl rfl <| ok_getfr (r := 110) (pc' := 4) i220_1 o220 gr17_47 (hY.gr.ky) (hY.gr.r7) rfl <| ok_iconst (pc' := 5) i220_4 rfl <| ok_iaload (v := (s 11)) (pc' := 6) i220_5 (hY.gr.ka) (by decide) (hY.gr.la) (by decide) ((Yd.acz hY (i := 5) (z := 11) (by omega) (by omega) (by omega))) rfl <| ok_istoren (pc' := 7) (ls' := [aR 101, aI 3, aI (s 11), aU, aU, aU, aU, aU, aU, aU]) i220_6 (bt rfl) rfl rfl <| ok_iconst (pc' := 8) i220_7 rfl <| ok_istoren (pc' := 9) (ls' := [aR 101, aI 3, aI (s 11), aI 0, aU, aU, aU, aU, aU, aU]) i220_8 (bt rfl) rfl rfl <| ?_
  have e11 : (s 11) = s 11 := rfl
  refine w220_9 hY hV hO rfl rfl rfl rfl rfl rfl (fun g1 M1 w4 w5 w6 w7 w8 w9 hw4 hw5 hw6 hw7 hw8 hw9 hY1 f1 => ?_)
  have n1 := f1.n
  have hA := pf_aft hV
  have hV1 : Val b q (pfS q s) := hA.1
  obtain ⟨t, ht⟩ : ∃ t : Int → Int, t = pfS q s := ⟨_, rfl⟩
  rw [← ht] at hY1 hV1
  refine ok_iloadn (pc' := 122) i220_121 rfl rfl <| ok_iconst (pc' := 123) i220_122 rfl <| ok_kc0 (pc1 := 130) (pc2 := 126) i220_123 (by decide) rfl rfl <| ok_iconst (pc' := 127) i220_126 rfl <| ok_goto (pc' := 131) i220_127 rfl <| ok_istoren (pc' := 132) (ls' := [aR 101, aI 3, aI (s 11), aI 1, w4, w5, w6, w7, w8, w9]) i220_131 (bt rfl) rfl rfl <| ok_iconst (pc' := 133) i220_132 rfl <| ok_istore (pc' := 135) (ls' := [aR 101, aI 3, aI (s 11), aI 1, aI 1, w5, w6, w7, w8, w9]) i220_133 (bt rfl) rfl rfl <| ?_
  exact (w220_135 hY1 hV1 (by omega) ⟨by omega, by omega⟩ hw5 hw6 hw7 hw8 hw9).mono (fun o g3 M3 h => ⟨by rw [h.2.2]; have := hAf.2.2.2; dsimp only at this; rw [hS3, ← ht] at this; rw [this, show s 11 + fulN q s 3 - s 11 = fulN q s 3 by omega], by rw [hS3, ← ht]; exact h.1, Fr.w (Fr.trans f1 h.2.1) (by omega) (by omega)⟩)
theorem t220_n {g : AG} {M : AM} {O : Nat} {A : YA} {s q : Int → Int} {b : Int} {x1 : Int} (hY : Yd g M O A s q) (hV : Val b q s) (hO : O + 348 ≤ 100 + gN g) (hx : 0 ≤ x1 ∧ x1 ≤ 2) : Ok 2 220 0 [aR 101, aI x1, aU, aU, aU, aU, aU, aU, aU, aU] [] g M (fun o g1 M1 => o = .inl (some (aI (fulN q s x1))) ∧ Yd g1 M1 O A (fulS q s x1) q ∧ Fr (FY O) 8800 198800 g M g1 M1) := by
  have hQ := V_q hV
  have y3 := V_3 hV
  have y4 := V_4 hV
  have y5 := V_5 hV
  have yq0 := Q_0 hQ
  have yq1 := Q_1 hQ
  have hAf := ful_aft hV x1
  have hSn : fulS q s x1 = fillS q s x1 := if_neg (by omega)
  have e0 : Fr (FY O) 0 0 g M g M := Fr.rfl
  refine ok_aloadn (pc' := 1) i220_0 rfl rfl <| ok_getfr (r := 110) (pc' := 4) i220_1 o220 gr17_47 (hY.gr.ky) (hY.gr.r7) rfl <| ok_iconst (pc' := 5) i220_4 rfl <| ok_iaload (v := (s 11)) (pc' := 6) i220_5 (hY.gr.ka) (by decide) (hY.gr.la) (by decide) ((Yd.acz hY (i := 5) (z := 11) (by omega) (by omega) (by omega))) rfl <| ok_istoren (pc' := 7) (ls' := [aR 101, aI x1, aI (s 11), aU, aU, aU, aU, aU, aU, aU]) i220_6 (bt rfl) rfl rfl <| ok_iconst (pc' := 8) i220_7 rfl <| ok_istoren (pc' := 9) (ls' := [aR 101, aI x1, aI (s 11), aI 0, aU, aU, aU, aU, aU, aU]) i220_8 (bt rfl) rfl rfl <| ok_iloadn (pc' := 10) i220_9 rfl rfl <| ?_
  refine ok_aloadn (pc' := 11) i220_10 rfl rfl <| ok_getfi (v := (q 1)) (pc' := 14) i220_11 o220 gi17_94 (hY.gr.ky) (hY.mr.q1) rfl <| ?_
  refine ok_cge (pc1 := 121) (pc2 := 17) i220_14 (by omega) rfl rfl (fun h1 => ?_) (fun h1 => ?_)
  · refine ok_iloadn (pc' := 122) i220_121 rfl rfl <| ok_iconst (pc' := 123) i220_122 rfl <| ?_
    refine ok_cne (pc1 := 130) (pc2 := 126) i220_123 (by omega) rfl rfl (fun h2 => ?_) (fun h9 => by exfalso; omega)
    refine ok_iloadn (pc' := 131) i220_130 rfl rfl <| ok_istoren (pc' := 132) (ls' := [aR 101, aI x1, aI (s 11), aI x1, aU, aU, aU, aU, aU, aU]) i220_131 (bt rfl) rfl rfl <| ok_iconst (pc' := 133) i220_132 rfl <| ok_istore (pc' := 135) (ls' := [aR 101, aI x1, aI (s 11), aI x1, aI 1, aU, aU, aU, aU, aU]) i220_133 (bt rfl) rfl rfl <| ?_
    exact (w220_135 hY hV (by omega) ⟨by omega, by omega⟩ rfl rfl rfl rfl rfl).mono (fun o g3 M3 h => ⟨by rw [h.2.2]; have := hAf.2.2.2; dsimp only at this; rw [hSn] at this; rw [this, show s 11 + fulN q s x1 - s 11 = fulN q s x1 by omega], by rw [hSn]; exact h.1, Fr.w h.2.1 (by omega) (by omega)⟩)
  · refine ok_iloadn (pc' := 18) i220_17 rfl rfl <| ok_iconst (pc' := 19) i220_18 rfl <| ?_
    refine ok_cne (pc1 := 121) (pc2 := 22) i220_19 (by omega) rfl rfl (fun h3 => ?_) (fun h9 => by exfalso; omega)
    refine ok_iloadn (pc' := 122) i220_121 rfl rfl <| ok_iconst (pc' := 123) i220_122 rfl <| ?_
    refine ok_cne (pc1 := 130) (pc2 := 126) i220_123 (by omega) rfl rfl (fun h4 => ?_) (fun h9 => by exfalso; omega)
    refine ok_iloadn (pc' := 131) i220_130 rfl rfl <| ok_istoren (pc' := 132) (ls' := [aR 101, aI x1, aI (s 11), aI x1, aU, aU, aU, aU, aU, aU]) i220_131 (bt rfl) rfl rfl <| ok_iconst (pc' := 133) i220_132 rfl <| ok_istore (pc' := 135) (ls' := [aR 101, aI x1, aI (s 11), aI x1, aI 1, aU, aU, aU, aU, aU]) i220_133 (bt rfl) rfl rfl <| ?_
    exact (w220_135 hY hV (by omega) ⟨by omega, by omega⟩ rfl rfl rfl rfl rfl).mono (fun o g3 M3 h => ⟨by rw [h.2.2]; have := hAf.2.2.2; dsimp only at this; rw [hSn] at this; rw [this, show s 11 + fulN q s x1 - s 11 = fulN q s x1 by omega], by rw [hSn]; exact h.1, Fr.w h.2.1 (by omega) (by omega)⟩)
/-- fill is the class's -/
theorem t220 {g : AG} {M : AM} {O : Nat} {A : YA} {s q : Int → Int} {b : Int} {x1 : Int} (hY : Yd g M O A s q) (hV : Val b q s) (hO : O + 348 ≤ 100 + gN g) (hx : 0 ≤ x1 ∧ x1 ≤ 3) : Ok 2 220 0 [aR 101, aI x1, aU, aU, aU, aU, aU, aU, aU, aU] [] g M (fun o g1 M1 => o = .inl (some (aI (fulN q s x1))) ∧ Yd g1 M1 O A (fulS q s x1) q ∧ Fr (FY O) 8800 198800 g M g1 M1) := by
  by_cases h : x1 = 3
  · rw [h]
    exact t220_3 hY hV hO
  · exact t220_n hY hV hO ⟨hx.1, by omega⟩
