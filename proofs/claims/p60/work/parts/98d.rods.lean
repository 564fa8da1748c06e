/-! THE RODS ARE DRAWN (by program, wip/p60/gen) -/
theorem m17_82 : am_mlk 17 82 0 196 = true := by decide +kernel
theorem sr17_80 : (am_sr 17 80).map (fun q => q.2.1) = some 32 := by decide +kernel
theorem cn17_80 : am_ct 17 80 = none := by decide +kernel
/-- rods of a kind -/
theorem w195_277 {g : AG} {M : AM} {L : Nat} {d c x m : Int} {t : Tx} {A : YA} {s q : Int → Int} {V : Nat} {C : Int} {n0 z0 : Nat} {dd : Nat} {Q : AO → AG → AM → Prop} (H : YI g M L d t A s q V C n0 z0) (hn0 : n0 ≤ 500000) (hV : Val 0 q s) (hx : 0 ≤ x ∧ x < q 0) (hm : 1 ≤ m ∧ m ≤ 3) (h3 : s 3 ≤ 20) (K : ∀ (g : AG) (M : AM) (A : YA), YI g M L d t A (itv (fun _ u => addT u x (q (2 + x))) s 0 m.toNat) q V C (n0 + 3) (z0 + 48) → Val 0 q (itv (fun _ u => addT u x (q (2 + x))) s 0 m.toNat) → itv (fun _ u => addT u x (q (2 + x))) s 0 m.toNat 3 = s 3 + m → Ok (dd + 14) 195 295 [aR 101, aR 100, aI c, aI x, aI m, aI m, aU] [] g M Q) : Ok (dd + 14) 195 277 [aR 101, aR 100, aI c, aI x, aI m, aI 0, aU] [] g M Q := by
  refine ok_lp (σ := Nat) (fun j ls g M => ∃ (i : Int) (A : YA) (u : Int → Int), i = (j : Int) ∧ i ≤ m ∧ Val 0 q u ∧ u 3 = s 3 + i ∧ u = itv (fun _ u => addT u x (q (2 + x))) s 0 j ∧ YI g M L d t A u q V C (n0 + j) (z0 + 16 * j) ∧ ls = [aR 101, aR 100, aI c, aI x, aI m, aI i, aU]) (fun j => m.toNat - j) ?_ 0 _ g M ⟨0, A, s, rfl, by omega, hV, by omega, rfl, H, rfl⟩
  rintro j ls g M ⟨i, A, u, hi, him, hVk, h3k, hu, H, rfl⟩ ih
  have hY0 := YI.y H
  have hcy0 := YI.c H
  have hzy0 := (YI.sb H).z
  have hny0 := H_n H
  have y3 := V_3 hVk
  by_cases hi9 : i = m
  · have hj9 : j = m.toNat := by omega
    subst hi9
    subst hj9
    have H := YI.up H (n' := n0 + 3) (z' := z0 + 48) (by omega) (by omega)
    rw [hu] at H hVk h3k
    refine ok_iload (pc' := 279) i195_277 rfl rfl <| ok_iload (pc' := 281) i195_279 rfl rfl <| ?_
    refine ok_cge (pc1 := 295) (pc2 := 284) i195_281 (by omega) rfl rfl (fun h1 => ?_) (fun h9 => by exfalso; omega)
    exact K _ _ _ H hVk h3k
  have hi2 : 0 ≤ i ∧ i < m := by omega
  refine ok_iload (pc' := 279) i195_277 rfl rfl <| ok_iload (pc' := 281) i195_279 rfl rfl <| ?_
  refine ok_cge (pc1 := 295) (pc2 := 284) i195_281 (by omega) rfl rfl (fun h9 => by exfalso; omega) (fun h1 => ?_)
  refine ok_aloadn (pc' := 285) i195_284 rfl rfl <| ok_iloadn (pc' := 286) i195_285 rfl rfl <| ?_
  refine ok_cc i195_286 rfl (cl_v o195 m17_82 na196 rfl rfl (bt rfl) (bt rfl) rfl (by rw [hY0.gr.ky, o196])) ln196 (pd196 (aR 101) (aI x)) <| (Ok.deep (b196 (x1 := x) hY0 hVk (by unfold OX; omega) hx (by omega)) (by omega)).mono (fun o9 g1b M1b p1b => ?_)
  obtain ⟨rfl, A1, hYb1, eb1, rb1⟩ := p1b
  have H1 := YI.ch H hYb1 eb1 rb1
  refine kt_0 (pc' := 289) rfl <| ok_iinc (pc' := 292) (v := (i + 1)) (ls' := [aR 101, aR 100, aI c, aI x, aI m, aI (i + 1), aU]) i195_289 rfl rfl rfl rfl <| ok_goto (pc' := 277) i195_292 rfl <| ?_
  have h3u : addT u x (q (2 + x)) 3 = u 3 + 1 := upI_eq
  have hVu := V_add (l := q (2 + x)) hVk (by omega) hx (Q_2 (V_q hVk) hx.1 hx.2)
  exact ih (j + 1) _ _ _ (by omega) ⟨i + 1, _, addT u x (q (2 + x)), by omega, by omega, hVu, by omega, by rw [itv_1 hi, ← hu], YI.up H1 (by omega) (by omega), rfl⟩
theorem addT_4 {u : Int → Int} {k l : Int} (h : 0 ≤ u 3) : addT u k l 4 = u 4 := by
  unfold addT
  rw [upI_ne (by omega), upI_ne (by omega), upI_ne (by omega), upI_ne (by omega), upI_ne (by omega), upI_ne (by omega)]
theorem itv_a4 {q s : Int → Int} {x : Int} : ∀ k : Nat, 0 ≤ s 3 → itv (fun _ u => addT u x (q (2 + x))) s 0 k 4 = s 4 ∧ 0 ≤ itv (fun _ u => addT u x (q (2 + x))) s 0 k 3
  | 0, h => ⟨rfl, h⟩
  | k + 1, h => by
    obtain ⟨h1, h2⟩ := itv_a4 (q := q) (s := s) (x := x) k h
    have e : itv (fun _ u => addT u x (q (2 + x))) s 0 (k + 1) = addT (itv (fun _ u => addT u x (q (2 + x))) s 0 k) x (q (2 + x)) := rfl
    rw [e]
    refine ⟨?_, by rw [show addT (itv (fun _ u => addT u x (q (2 + x))) s 0 k) x (q (2 + x)) 3 = itv (fun _ u => addT u x (q (2 + x))) s 0 k 3 + 1 from upI_eq]; omega⟩
    exact (addT_4 h2).trans h1
/-- the rods -/
theorem w195_226 {g : AG} {M : AM} {L : Nat} {d0 c0 : Int} {t : Tx} {A : YA} {s q : Int → Int} {V : Nat} {C : Int} {n0 z0 : Nat} {dd : Nat} {w3 w4 : AV} {Q : AO → AG → AM → Prop} (H : YI g M L d0 t A s q V C n0 z0) (hn0 : n0 ≤ 400000) (hPI : PI t q s) (h3 : s 3 = 0) (h4 : s 4 = 0) (hq0 : 1 ≤ q 0 ∧ q 0 ≤ 3) (hc : 0 ≤ c0 ∧ c0 ≤ 2) (hd : 0 ≤ d0 ∧ d0 ≤ 17) (ht : t.1 ≤ 85) (hw3 : am_cat w3 = 1) (hw4 : am_cat w4 = 1) (K : ∀ (g : AG) (M : AM) (c d : Int) (t : Tx) (A : YA) (s : Int → Int) (V : Nat) (C : Int) (w : AV × AV × AV), YI g M L d t A s q V C (n0 + 16) (z0 + 96) → PI t q s → s 3 ≤ 6 → s 4 = 0 → (0 ≤ d ∧ d ≤ 21) → t.1 ≤ 111 → am_cat w.1 = 1 → am_cat w.2.1 = 1 → am_cat w.2.2 = 1 → Ok (dd + 14) 195 301 [aR 101, aR 100, aI c, w.1, w.2.1, w.2.2, aU] [] g M Q) : Ok (dd + 14) 195 226 [aR 101, aR 100, aI c0, w3, w4, aU, aU] [] g M Q := by
  refine ok_lp (σ := Nat) (fun j ls g M => ∃ (c d : Int) (t : Tx) (A : YA) (s : Int → Int) (V : Nat) (C : Int) (w3 w4 w5 : AV), (0 ≤ c ∧ c + j ≤ 2) ∧ YI g M L d t A s q V C (n0 + 8 * j) (z0 + 48 * j) ∧ PI t q s ∧ (s 3 ≤ 3 * j) ∧ s 4 = 0 ∧ (0 ≤ d ∧ d ≤ 17 + 2 * j) ∧ t.1 ≤ 85 + 13 * j ∧ am_cat w3 = 1 ∧ am_cat w4 = 1 ∧ am_cat w5 = 1 ∧ ls = [aR 101, aR 100, aI c, w3, w4, w5, aU]) (fun j => 4 - j) ?_ 0 _ g M ⟨c0, d0, t, A, s, V, C, w3, w4, aU, by omega, H, hPI, by omega, h4, by omega, by omega, hw3, hw4, rfl, rfl⟩
  rintro j ls g M ⟨c, d, t, A, s, V, C, w3, w4, w5, hcj, H, hPI, h3, h4, hd, ht, hw3, hw4, hw5, rfl⟩ ih
  have hY0 := YI.y H
  have hcy0 := YI.c H
  have hzy0 := (YI.sb H).z
  have hny0 := H_n H
  have hVs := hPI.val.1
  have y3 := V_3 hVs
  by_cases hc0 : c = 0
  · subst hc0
    have H := YI.up H (n' := n0 + 16) (z' := z0 + 96) (by omega) (by omega)
    refine ok_iloadn (pc' := 227) i195_226 rfl rfl <| ok_kz1 (pc1 := 301) (pc2 := 230) i195_227 (by decide) rfl rfl <| ?_
    exact K _ _ 0 d t A s V C (w3, w4, w5) H hPI (by omega) h4 (by omega) (by omega) hw3 hw4 hw5
  have hc1 : 1 ≤ c ∧ c ≤ 2 := by omega
  refine ok_iloadn (pc' := 227) i195_226 rfl rfl <| ?_
  refine ok_zle (pc1 := 301) (pc2 := 230) i195_227 (by omega) rfl rfl (fun h9 => by exfalso; omega) (fun h1 => ?_)
  refine ok_aloadn (pc' := 231) i195_230 rfl rfl <| ok_iconst (pc' := 232) i195_231 rfl <| ok_aloadn (pc' := 233) i195_232 rfl rfl <| ok_getfi (v := (q 0)) (pc' := 236) i195_233 o195 gi17_72 (hY0.gr.ky) (hY0.mr.q0) rfl <| ok_iconst (pc' := 237) i195_236 rfl <| ok_isub (v := ((q 0) - 1)) (pc' := 238) i195_237 rfl rfl <| ?_
  refine ok_cc i195_238 rfl (cl_v o195 m17_50 na192 rfl rfl (bt rfl) (bt rfl) rfl (by rw [(YI.dr H).1, o192])) ln192 (pd192 (aR 100) (aI 0) (aI ((q 0) - 1))) <| (Ok.deep (t192 (YI.dr H) ⟨by omega, by omega⟩ (by omega)) (by omega)).mono (fun o9 g2d M2d p2d => ?_)
  obtain ⟨v2, rfl, hl2, hh2, eg2, em2⟩ := p2d
  have H2 := YI.dw H (by omega)
  rw [← em2, ← eg2] at H2
  clear em2 eg2
  have hY2 := YI.y H2
  have hcy2 := YI.c H2
  have hzy2 := (YI.sb H2).z
  have hny2 := H_n H2
  refine kt_v (pc' := 241) rfl <| ok_istoren (pc' := 242) (ls' := [aR 101, aR 100, aI c, aI v2, w4, w5, aU]) i195_241 (bt rfl) rfl rfl <| ok_aloadn (pc' := 243) i195_242 rfl rfl <| ok_iconst (pc' := 244) i195_243 rfl <| ok_iconst (pc' := 245) i195_244 rfl <| ?_
  refine ok_cc i195_245 rfl (cl_v o195 m17_50 na192 rfl rfl (bt rfl) (bt rfl) rfl (by rw [(YI.dr H2).1, o192])) ln192 (pd192 (aR 100) (aI 1) (aI 3)) <| (Ok.deep (t192 (YI.dr H2) ⟨by omega, by omega⟩ (by omega)) (by omega)).mono (fun o9 g3d M3d p3d => ?_)
  obtain ⟨v3, rfl, hl3, hh3, eg3, em3⟩ := p3d
  have H3 := YI.dw H2 (by omega)
  rw [← em3, ← eg3] at H3
  clear em3 eg3
  have hY3 := YI.y H3
  have hcy3 := YI.c H3
  have hzy3 := (YI.sb H3).z
  have hny3 := H_n H3
  refine kt_v (pc' := 248) rfl <| ok_istore (pc' := 250) (ls' := [aR 101, aR 100, aI c, aI v2, aI v3, w5, aU]) i195_248 (bt rfl) rfl rfl <| ok_aloadn (pc' := 251) i195_250 rfl rfl <| ok_getfr (r := 102) (pc' := 254) i195_251 o195 gr17_14 (hY3.gr.ky) (YI.r H3) rfl <| ok_ldcz (pc' := 256) i195_254 o195 cn17_80 sr17_80 rfl <| ?_
  have hst := BS.str (YI.bs H3) (j := 11) (by decide)
  refine ok_cc i195_256 rfl (cl_v o195 m17_69 na183 rfl rfl (bt rfl) (bt rfl) rfl (by rw [(YI.sb H3).k, o183])) ln183 (pd183 (aR 102) (aR 32)) <| (Ok.deep (sbS (m := 6) (tx := stx 11) (YI.sb H3) hst.1 rfl (by decide) (by decide) (by decide) (fun i i0 i1 => ⟨hst.2 i i0 i1, tb (P := fun i => 0 ≤ stx 11 i ∧ stx 11 i ≤ 127) (m := 6) (by decide) i i0 i1⟩) (by omega) (by omega)) (by omega)).mono (fun o9 g4p M4p p4p => ?_)
  obtain ⟨rfl, V4, C4, hSp4, hGp4⟩ := p4p
  have H4 := YI.ap H3 hSp4 hGp4 (by rw [sayW_1]; show _ + ((6 : Nat) : Int) ≤ _; omega)
  obtain ⟨t4, ht4⟩ : ∃ z : Tx, z = sayW t (stx 11) (stn 11) := ⟨_, rfl⟩
  rw [← ht4] at H4
  clear hSp4 hGp4
  have hl4 : t4.1 = t.1 + 6 := by rw [ht4]; exact sayW_1 _
  have hY4 := YI.y H4
  have hcy4 := YI.c H4
  have hzy4 := (YI.sb H4).z
  have hny4 := H_n H4
  refine kt_v (pc' := 259) rfl <| ok_iloadn (pc' := 260) i195_259 rfl rfl <| ?_
  refine ok_cc i195_260 rfl (cl_v o195 m17_63 na184 rfl rfl (bt rfl) (bt rfl) rfl (by rw [(YI.sb H4).k, o184])) ln184 (pd184 (aR 102) (aI v2)) <| (Ok.deep (sbI (x := v2) (YI.sb H4) (YI.bs H4) (by omega) (by omega) (by omega)) (by omega)).mono (fun o9 g5p M5p p5p => ?_)
  obtain ⟨rfl, V5, C5, hSp5, hGp5⟩ := p5p
  have H5 := YI.ap H4 hSp5 hGp5 (by have := (sayN_1 (t := t4) (v := v2)).2; omega)
  obtain ⟨t5, ht5⟩ : ∃ z : Tx, z = sayN t4 v2 := ⟨_, rfl⟩
  rw [← ht5] at H5
  clear hSp5 hGp5
  have hl5 : t4.1 + 1 ≤ t5.1 ∧ t5.1 ≤ t4.1 + 3 := by rw [ht5]; exact sayN_1
  have hY5 := YI.y H5
  have hcy5 := YI.c H5
  have hzy5 := (YI.sb H5).z
  have hny5 := H_n H5
  refine kt_v (pc' := 263) rfl <| ok_bipush (v := 32) (pc' := 265) i195_263 rfl rfl <| ?_
  refine ok_cc i195_265 rfl (cl_v o195 m17_77 na185 rfl rfl (bt rfl) (bt rfl) rfl (by rw [(YI.sb H5).k, o185])) ln185 (pd185 (aR 102) (aI 32)) <| (Ok.deep (sbC (c := 32) (YI.sb H5) (by omega) (by omega) (by omega)) (by omega)).mono (fun o9 g6p M6p p6p => ?_)
  obtain ⟨rfl, V6, C6, hSp6, hGp6⟩ := p6p
  have H6 := YI.ap H5 hSp6 hGp6 (by omega)
  obtain ⟨t6, ht6⟩ : ∃ z : Tx, z = say t5 32 := ⟨_, rfl⟩
  rw [← ht6] at H6
  clear hSp6 hGp6
  have hl6 : t6.1 = t5.1 + 1 := by rw [ht6]; rfl
  have hY6 := YI.y H6
  have hcy6 := YI.c H6
  have hzy6 := (YI.sb H6).z
  have hny6 := H_n H6
  refine kt_v (pc' := 268) rfl <| ok_iload (pc' := 270) i195_268 rfl rfl <| ?_
  refine ok_cc i195_270 rfl (cl_v o195 m17_63 na184 rfl rfl (bt rfl) (bt rfl) rfl (by rw [(YI.sb H6).k, o184])) ln184 (pd184 (aR 102) (aI v3)) <| (Ok.deep (sbI (x := v3) (YI.sb H6) (YI.bs H6) (by omega) (by omega) (by omega)) (by omega)).mono (fun o9 g7p M7p p7p => ?_)
  obtain ⟨rfl, V7, C7, hSp7, hGp7⟩ := p7p
  have H7 := YI.ap H6 hSp7 hGp7 (by have := (sayN_1 (t := t6) (v := v3)).2; omega)
  obtain ⟨t7, ht7⟩ : ∃ z : Tx, z = sayN t6 v3 := ⟨_, rfl⟩
  rw [← ht7] at H7
  clear hSp7 hGp7
  have hl7 : t6.1 + 1 ≤ t7.1 ∧ t7.1 ≤ t6.1 + 3 := by rw [ht7]; exact sayN_1
  have hY7 := YI.y H7
  have hcy7 := YI.c H7
  have hzy7 := (YI.sb H7).z
  have hny7 := H_n H7
  refine kt_v (pc' := 273) rfl <| ok_pop (pc' := 274) i195_273 rfl rfl <| ok_iconst (pc' := 275) i195_274 rfl <| ok_istore (pc' := 277) (ls' := [aR 101, aR 100, aI c, aI v2, aI v3, aI 0, aU]) i195_275 (bt rfl) rfl rfl <| ?_
  have hPI2 : PI t7 q (itv (fun _ u => addT u v2 (q (2 + v2))) s 0 (v3).toNat) := by rw [ht7, ht6, ht5, ht4]; exact PI_rods hPI ⟨by omega, by omega⟩ (by omega) (by omega) (by omega)
  refine w195_277 (dd := dd) H7 (by omega) hVs ⟨by omega, by omega⟩ (by omega) (by omega) (fun g7 M7 A7 H7 hV7 h37 => ?_)
  refine ok_iinc (pc' := 298) (v := (c + (-1))) (ls' := [aR 101, aR 100, aI (c + (-1)), aI v2, aI v3, aI v3, aU]) i195_295 rfl rfl rfl rfl <| ok_goto (pc' := 226) i195_298 rfl <| ?_
  exact ih (j + 1) _ _ _ (by omega) ⟨c + (-1), ((d + 1) + 1), _, _, _, _, _, _, _, _, by omega, H7.up (by omega) (by omega), hPI2, by omega, (itv_a4 _ y3.1).1.trans h4, by omega, by omega, rfl, rfl, rfl, rfl⟩
