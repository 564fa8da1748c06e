/-! ORDERS AND PATTERNS ARE DRAWN (by program, wip/p60/gen) -/
theorem Yd.mx {g : AG} {M M' : AM} {O x : Nat} {A : YA} {s q : Int → Int} (h : Yd g M O A s q) (hx : 111 ≤ x) (hk : gK g x = 20) (hK : ∀ j : Int, 0 ≤ j → j < q 0 → A.K j ≠ x) (hP : ∀ j : Int, 0 ≤ j → j < q 1 → A.P j ≠ x) (h5 : s 5 = 0) (e : ∀ c : Nat, c ≠ x → M' c = M c) : Yd g M' O A s q := by
  have m := h.mr
  have nr : ∀ k : Int, 0 ≤ k → k < s 3 → A.R k ≠ x := fun k k0 k1 e => by
    have h9 := (h.gr.rr k k0 k1).2.2
    rw [e, hk] at h9
    exact absurd h9 (by decide)
  have nd : ∀ k : Int, 0 ≤ k → k < s 4 → A.D k ≠ x := fun k k0 k1 e => by
    have h9 := (h.gr.dd k k0 k1).2.2
    rw [e, hk] at h9
    exact absurd h9 (by decide)
  refine ⟨h.gr, ⟨?_, ?_, ?_, ?_, ?_, ?_, ?_⟩, fun k k0 k1 => by rw [h5] at k1; omega, h.li⟩
  · intro c y z hc
    have hm := m.cl c y z hc
    rcases hc with h1 | h1 | h1 | ⟨k, k0, k1, rfl, _⟩ | ⟨k, k0, k1, rfl, _⟩
    · rw [e c (by omega)]; exact hm
    · rw [e c (by omega)]; exact hm
    · rw [e c (by omega)]; exact hm
    · rw [e _ (nr k k0 k1)]; exact hm
    · rw [e _ (nd k k0 k1)]; exact hm
  · exact fun k k0 k1 => by rw [e _ (nr k k0 k1)]; exact m.rn k k0 k1
  · exact fun k k0 k1 => by rw [e _ (nd k k0 k1)]; exact m.dn k k0 k1
  · rw [e 101 (by omega)]; exact m.q0
  · rw [e 101 (by omega)]; exact m.q1
  · exact fun k k0 k1 => by rw [e _ (hK k k0 k1)]; exact m.kk k k0 k1
  · exact fun k k0 k1 => by rw [e _ (hP k k0 k1)]; exact m.pp k k0 k1
/-- a row of a pattern that is being filled -/
def XR (g : AG) (M : AM) (A : YA) (q : Int → Int) (x : Nat) (m : Int) (f : Int → Int) : Prop := IA g M x m f ∧ (111 ≤ x ∧ x < 100 + gN g) ∧ (∀ j : Int, 0 ≤ j → j < q 0 → A.K j ≠ x) ∧ (∀ j : Int, 0 ≤ j → j < q 1 → A.P j ≠ x)
section XR
variable {g g1 : AG} {M M1 : AM} {L V V1 n z x : Nat} {d C C1 m : Int} {t t1 : Tx} {A : YA} {s q f : Int → Int}
theorem XR.st (hX : XR g M A q x m f) (H : YI g M L d t A s q V C n z) (h5 : s 5 = 0) {i v : Int} : XR g (up2 M x i v) A q x m (upI f i v) ∧ YI g (up2 M x i v) L d t A s q V C n z := by
  obtain ⟨h1, h2, h3, h4⟩ := hX
  obtain ⟨a1, a2, a3, a4, a5, a6, a7, a8, a9⟩ := H
  have hxv : V ≠ x := fun e => by
    have h9 := a2.v
    rw [e, h1.1] at h9
    exact absurd h9 (by decide)
  have e : Fr (fun c => c = x) 0 0 g M g (up2 M x i v) := Fr.up (F := fun c => c = x) (a := x) Fr.rfl (Or.inl rfl)
  refine ⟨⟨h1.up, h2, h3, h4⟩, a1.mx h2.1 h1.1 h3 h4 h5 (fun c hc => up2_na hc), a2.fr e (fun h => by have h9 : 102 = x := h; omega) (fun h => hxv h), ?_, fun c c0 c1 => ⟨(a4 c c0 c1).1, by rw [up2_na (by omega)]; exact (a4 c c0 c1).2⟩, a5, a6, a7, a8, a9⟩
  obtain ⟨b1, b2, b3, b4, b5, b6⟩ := a3
  exact ⟨b1, b2, b3, b4, by rw [up2_na (by omega)]; exact b5, b6⟩
theorem XR.dm (hX : XR g M A q x m f) {v : Int} : XR g (up2 M 100 1 v) A q x m f := ⟨⟨hX.1.1, hX.1.2.1, fun i i0 i1 => by rw [up2_na (by have := hX.2.1; omega)]; exact hX.1.2.2 i i0 i1⟩, hX.2⟩
theorem XR.ap (hX : XR g M A q x m f) (H : YI g M L d t A s q V C n z) {k : Int} (hG : Gr g M g1 M1 102 V V1 C C1 k) : XR g1 M1 A q x m f := by
  have hxv : x ≠ V := fun e => by
    have h9 := H.sb.v
    rw [← e, hX.1.1] at h9
    exact absurd h9 (by decide)
  have h2 := hX.2.1
  have hn := hG.1.n
  exact ⟨hX.1.fr hG.1 h2.2 (fun h => by unfold FB at h; omega), ⟨h2.1, by omega⟩, hX.2.2⟩
end XR
theorem entP_g {q : Int → Int} (hq : 0 ≤ q 1 ∧ q 1 < 6) : entP q 1 = q 1 + 1 ∧ entP q (10 + q 1) = 0 ∧ ∀ j : Int, j ≠ 1 → j ≠ 10 + q 1 → entP q j = q j := ⟨upI_eq, by unfold entP; rw [upI_ne (by omega), upI_eq], fun j h1 h2 => by unfold entP; rw [upI_ne h1, upI_ne h2]⟩
theorem sr17_86 : (am_sr 17 86).map (fun q => q.2.1) = some 34 := by decide +kernel
theorem cn17_86 : am_ct 17 86 = none := by decide +kernel
theorem m17_88 : am_mlk 17 88 0 197 = true := by decide +kernel
/-- the orders -/
theorem w195_308 {g : AG} {M : AM} {L : Nat} {d0 c0 : Int} {t : Tx} {A : YA} {s q : Int → Int} {V : Nat} {C : Int} {n0 z0 : Nat} {dd : Nat} {w3 w4 w5 : AV} {Q : AO → AG → AM → Prop} (H : YI g M L d0 t A s q V C n0 z0) (hn0 : n0 ≤ 400000) (hPI : PI t q s) (h4 : s 4 = 0) (hc : 0 ≤ c0 ∧ c0 ≤ 4) (hd : 0 ≤ d0 ∧ d0 ≤ 22) (ht : t.1 ≤ 111) (hw3 : am_cat w3 = 1) (hw4 : am_cat w4 = 1) (hw5 : am_cat w5 = 1) (K : ∀ (g : AG) (M : AM) (c d : Int) (t : Tx) (A : YA) (s : Int → Int) (V : Nat) (C : Int) (w : AV × AV × AV × AV), YI g M L d t A s q V C (n0 + 64) (z0 + 64) → PI t q s → (0 ≤ d ∧ d ≤ 38) → t.1 ≤ 215 → am_cat w.1 = 1 → am_cat w.2.1 = 1 → am_cat w.2.2.1 = 1 → am_cat w.2.2.2 = 1 → Ok (dd + 14) 195 407 [aR 101, aR 100, aI c, w.1, w.2.1, w.2.2.1, w.2.2.2] [] g M Q) : Ok (dd + 14) 195 308 [aR 101, aR 100, aI c0, w3, w4, w5, aU] [] g M Q := by
  refine ok_lp (σ := Nat) (fun j ls g M => ∃ (c d : Int) (t : Tx) (A : YA) (s : Int → Int) (V : Nat) (C : Int) (w3 w4 w5 w6 : AV), (0 ≤ c ∧ c + j ≤ 4) ∧ YI g M L d t A s q V C (n0 + 16 * j) (z0 + 16 * j) ∧ PI t q s ∧ s 4 = (j : Int) ∧ (0 ≤ d ∧ d ≤ 22 + 4 * j) ∧ t.1 ≤ 111 + 26 * j ∧ am_cat w3 = 1 ∧ am_cat w4 = 1 ∧ am_cat w5 = 1 ∧ am_cat w6 = 1 ∧ ls = [aR 101, aR 100, aI c, w3, w4, w5, w6]) (fun j => 6 - j) ?_ 0 _ g M ⟨c0, d0, t, A, s, V, C, w3, w4, w5, aU, by omega, H, hPI, h4, by omega, by omega, hw3, hw4, hw5, rfl, rfl⟩
  rintro j ls g M ⟨c, d, t, A, s, V, C, w3, w4, w5, w6, hcj, H, hPI, h4, hd, ht, hw3, hw4, hw5, hw6, rfl⟩ ih
  have hY0 := YI.y H
  have hcy0 := YI.c H
  have hzy0 := (YI.sb H).z
  have hny0 := H_n H
  have hVs := hPI.val.1
  have hKZ := hPI.val.2.1
  by_cases hc0 : c = 0
  · subst hc0
    have H := YI.up H (n' := n0 + 64) (z' := z0 + 64) (by omega) (by omega)
    refine ok_iloadn (pc' := 309) i195_308 rfl rfl <| ok_kz1 (pc1 := 407) (pc2 := 312) i195_309 (by decide) rfl rfl <| ?_
    exact K _ _ 0 d t A s V C (w3, w4, w5, w6) H hPI (by omega) (by omega) hw3 hw4 hw5 hw6
  have hc1 : 1 ≤ c ∧ c ≤ 4 := by omega
  refine ok_iloadn (pc' := 309) i195_308 rfl rfl <| ?_
  refine ok_zle (pc1 := 407) (pc2 := 312) i195_309 (by omega) rfl rfl (fun h9 => by exfalso; omega) (fun h1 => ?_)
  refine ok_aloadn (pc' := 313) i195_312 rfl rfl <| ok_iconst (pc' := 314) i195_313 rfl <| ok_bipush (v := 6) (pc' := 316) i195_314 rfl rfl <| ?_
  refine ok_cc i195_316 rfl (cl_v o195 m17_50 na192 rfl rfl (bt rfl) (bt rfl) rfl (by rw [(YI.dr H).1, o192])) ln192 (pd192 (aR 100) (aI 1) (aI 6)) <| (Ok.deep (t192 (YI.dr H) ⟨by omega, by omega⟩ (by omega)) (by omega)).mono (fun o9 g1d M1d p1d => ?_)
  obtain ⟨v1, rfl, hl1, hh1, eg1, em1⟩ := p1d
  have H1 := YI.dw H (by omega)
  rw [← em1, ← eg1] at H1
  clear em1 eg1
  have hY1 := YI.y H1
  have hcy1 := YI.c H1
  have hzy1 := (YI.sb H1).z
  have hny1 := H_n H1
  refine kt_v (pc' := 319) rfl <| ok_istoren (pc' := 320) (ls' := [aR 101, aR 100, aI c, aI v1, w4, w5, w6]) i195_319 (bt rfl) rfl rfl <| ok_aloadn (pc' := 321) i195_320 rfl rfl <| ok_iconst (pc' := 322) i195_321 rfl <| ok_iconst (pc' := 323) i195_322 rfl <| ?_
  refine ok_cc i195_323 rfl (cl_v o195 m17_50 na192 rfl rfl (bt rfl) (bt rfl) rfl (by rw [(YI.dr H1).1, o192])) ln192 (pd192 (aR 100) (aI 1) (aI 4)) <| (Ok.deep (t192 (YI.dr H1) ⟨by omega, by omega⟩ (by omega)) (by omega)).mono (fun o9 g2d M2d p2d => ?_)
  obtain ⟨v2, rfl, hl2, hh2, eg2, em2⟩ := p2d
  have H2 := YI.dw H1 (by omega)
  rw [← em2, ← eg2] at H2
  clear em2 eg2
  have hY2 := YI.y H2
  have hcy2 := YI.c H2
  have hzy2 := (YI.sb H2).z
  have hny2 := H_n H2
  refine kt_v (pc' := 326) rfl <| ok_istore (pc' := 328) (ls' := [aR 101, aR 100, aI c, aI v1, aI v2, w5, w6]) i195_326 (bt rfl) rfl rfl <| ok_aloadn (pc' := 329) i195_328 rfl rfl <| ok_iconst (pc' := 330) i195_329 rfl <| ok_bipush (v := 9) (pc' := 332) i195_330 rfl rfl <| ?_
  refine ok_cc i195_332 rfl (cl_v o195 m17_50 na192 rfl rfl (bt rfl) (bt rfl) rfl (by rw [(YI.dr H2).1, o192])) ln192 (pd192 (aR 100) (aI 0) (aI 9)) <| (Ok.deep (t192 (YI.dr H2) ⟨by omega, by omega⟩ (by omega)) (by omega)).mono (fun o9 g3d M3d p3d => ?_)
  obtain ⟨v3, rfl, hl3, hh3, eg3, em3⟩ := p3d
  have H3 := YI.dw H2 (by omega)
  rw [← em3, ← eg3] at H3
  clear em3 eg3
  have hY3 := YI.y H3
  have hcy3 := YI.c H3
  have hzy3 := (YI.sb H3).z
  have hny3 := H_n H3
  refine kt_v (pc' := 335) rfl <| ok_istore (pc' := 337) (ls' := [aR 101, aR 100, aI c, aI v1, aI v2, aI v3, w6]) i195_335 (bt rfl) rfl rfl <| ok_aloadn (pc' := 338) i195_337 rfl rfl <| ok_iconst (pc' := 339) i195_338 rfl <| ok_iconst (pc' := 340) i195_339 rfl <| ?_
  refine ok_cc i195_340 rfl (cl_v o195 m17_50 na192 rfl rfl (bt rfl) (bt rfl) rfl (by rw [(YI.dr H3).1, o192])) ln192 (pd192 (aR 100) (aI 0) (aI 3)) <| (Ok.deep (t192 (YI.dr H3) ⟨by omega, by omega⟩ (by omega)) (by omega)).mono (fun o9 g4d M4d p4d => ?_)
  obtain ⟨v4, rfl, hl4, hh4, eg4, em4⟩ := p4d
  have H4 := YI.dw H3 (by omega)
  rw [← em4, ← eg4] at H4
  clear em4 eg4
  have hY4 := YI.y H4
  have hcy4 := YI.c H4
  have hzy4 := (YI.sb H4).z
  have hny4 := H_n H4
  refine kt_v (pc' := 343) rfl <| ok_istore (pc' := 345) (ls' := [aR 101, aR 100, aI c, aI v1, aI v2, aI v3, aI v4]) i195_343 (bt rfl) rfl rfl <| ok_aloadn (pc' := 346) i195_345 rfl rfl <| ok_getfr (r := 102) (pc' := 349) i195_346 o195 gr17_14 (hY4.gr.ky) (YI.r H4) rfl <| ok_ldcz (pc' := 351) i195_349 o195 cn17_86 sr17_86 rfl <| ?_
  have hst := BS.str (YI.bs H4) (j := 12) (by decide)
  refine ok_cc i195_351 rfl (cl_v o195 m17_69 na183 rfl rfl (bt rfl) (bt rfl) rfl (by rw [(YI.sb H4).k, o183])) ln183 (pd183 (aR 102) (aR 34)) <| (Ok.deep (sbS (m := 7) (tx := stx 12) (YI.sb H4) hst.1 rfl (by decide) (by decide) (by decide) (fun i i0 i1 => ⟨hst.2 i i0 i1, tb (P := fun i => 0 ≤ stx 12 i ∧ stx 12 i ≤ 127) (m := 7) (by decide) i i0 i1⟩) (by omega) (by omega)) (by omega)).mono (fun o9 g5p M5p p5p => ?_)
  obtain ⟨rfl, V5, C5, hSp5, hGp5⟩ := p5p
  have H5 := YI.ap H4 hSp5 hGp5 (by rw [sayW_1]; show _ + ((7 : Nat) : Int) ≤ _; omega)
  obtain ⟨t5, ht5⟩ : ∃ z : Tx, z = sayW t (stx 12) (stn 12) := ⟨_, rfl⟩
  rw [← ht5] at H5
  clear hSp5 hGp5
  have hl5 : t5.1 = t.1 + 7 := by rw [ht5]; exact sayW_1 _
  have hY5 := YI.y H5
  have hcy5 := YI.c H5
  have hzy5 := (YI.sb H5).z
  have hny5 := H_n H5
  refine kt_v (pc' := 354) rfl <| ok_iloadn (pc' := 355) i195_354 rfl rfl <| ?_
  refine ok_cc i195_355 rfl (cl_v o195 m17_63 na184 rfl rfl (bt rfl) (bt rfl) rfl (by rw [(YI.sb H5).k, o184])) ln184 (pd184 (aR 102) (aI v1)) <| (Ok.deep (sbI (x := v1) (YI.sb H5) (YI.bs H5) (by omega) (by omega) (by omega)) (by omega)).mono (fun o9 g6p M6p p6p => ?_)
  obtain ⟨rfl, V6, C6, hSp6, hGp6⟩ := p6p
  have H6 := YI.ap H5 hSp6 hGp6 (by have := (sayN_1 (t := t5) (v := v1)).2; omega)
  obtain ⟨t6, ht6⟩ : ∃ z : Tx, z = sayN t5 v1 := ⟨_, rfl⟩
  rw [← ht6] at H6
  clear hSp6 hGp6
  have hl6 : t5.1 + 1 ≤ t6.1 ∧ t6.1 ≤ t5.1 + 3 := by rw [ht6]; exact sayN_1
  have hY6 := YI.y H6
  have hcy6 := YI.c H6
  have hzy6 := (YI.sb H6).z
  have hny6 := H_n H6
  refine kt_v (pc' := 358) rfl <| ok_bipush (v := 32) (pc' := 360) i195_358 rfl rfl <| ?_
  refine ok_cc i195_360 rfl (cl_v o195 m17_77 na185 rfl rfl (bt rfl) (bt rfl) rfl (by rw [(YI.sb H6).k, o185])) ln185 (pd185 (aR 102) (aI 32)) <| (Ok.deep (sbC (c := 32) (YI.sb H6) (by omega) (by omega) (by omega)) (by omega)).mono (fun o9 g7p M7p p7p => ?_)
  obtain ⟨rfl, V7, C7, hSp7, hGp7⟩ := p7p
  have H7 := YI.ap H6 hSp7 hGp7 (by omega)
  obtain ⟨t7, ht7⟩ : ∃ z : Tx, z = say t6 32 := ⟨_, rfl⟩
  rw [← ht7] at H7
  clear hSp7 hGp7
  have hl7 : t7.1 = t6.1 + 1 := by rw [ht7]; rfl
  have hY7 := YI.y H7
  have hcy7 := YI.c H7
  have hzy7 := (YI.sb H7).z
  have hny7 := H_n H7
  refine kt_v (pc' := 363) rfl <| ok_iload (pc' := 365) i195_363 rfl rfl <| ?_
  refine ok_cc i195_365 rfl (cl_v o195 m17_63 na184 rfl rfl (bt rfl) (bt rfl) rfl (by rw [(YI.sb H7).k, o184])) ln184 (pd184 (aR 102) (aI v2)) <| (Ok.deep (sbI (x := v2) (YI.sb H7) (YI.bs H7) (by omega) (by omega) (by omega)) (by omega)).mono (fun o9 g8p M8p p8p => ?_)
  obtain ⟨rfl, V8, C8, hSp8, hGp8⟩ := p8p
  have H8 := YI.ap H7 hSp8 hGp8 (by have := (sayN_1 (t := t7) (v := v2)).2; omega)
  obtain ⟨t8, ht8⟩ : ∃ z : Tx, z = sayN t7 v2 := ⟨_, rfl⟩
  rw [← ht8] at H8
  clear hSp8 hGp8
  have hl8 : t7.1 + 1 ≤ t8.1 ∧ t8.1 ≤ t7.1 + 3 := by rw [ht8]; exact sayN_1
  have hY8 := YI.y H8
  have hcy8 := YI.c H8
  have hzy8 := (YI.sb H8).z
  have hny8 := H_n H8
  refine kt_v (pc' := 368) rfl <| ok_bipush (v := 32) (pc' := 370) i195_368 rfl rfl <| ?_
  refine ok_cc i195_370 rfl (cl_v o195 m17_77 na185 rfl rfl (bt rfl) (bt rfl) rfl (by rw [(YI.sb H8).k, o185])) ln185 (pd185 (aR 102) (aI 32)) <| (Ok.deep (sbC (c := 32) (YI.sb H8) (by omega) (by omega) (by omega)) (by omega)).mono (fun o9 g9p M9p p9p => ?_)
  obtain ⟨rfl, V9, C9, hSp9, hGp9⟩ := p9p
  have H9 := YI.ap H8 hSp9 hGp9 (by omega)
  obtain ⟨t9, ht9⟩ : ∃ z : Tx, z = say t8 32 := ⟨_, rfl⟩
  rw [← ht9] at H9
  clear hSp9 hGp9
  have hl9 : t9.1 = t8.1 + 1 := by rw [ht9]; rfl
  have hY9 := YI.y H9
  have hcy9 := YI.c H9
  have hzy9 := (YI.sb H9).z
  have hny9 := H_n H9
  refine kt_v (pc' := 373) rfl <| ok_iload (pc' := 375) i195_373 rfl rfl <| ?_
  refine ok_cc i195_375 rfl (cl_v o195 m17_63 na184 rfl rfl (bt rfl) (bt rfl) rfl (by rw [(YI.sb H9).k, o184])) ln184 (pd184 (aR 102) (aI v3)) <| (Ok.deep (sbI (x := v3) (YI.sb H9) (YI.bs H9) (by omega) (by omega) (by omega)) (by omega)).mono (fun o9 g10p M10p p10p => ?_)
  obtain ⟨rfl, V10, C10, hSp10, hGp10⟩ := p10p
  have H10 := YI.ap H9 hSp10 hGp10 (by have := (sayN_1 (t := t9) (v := v3)).2; omega)
  obtain ⟨t10, ht10⟩ : ∃ z : Tx, z = sayN t9 v3 := ⟨_, rfl⟩
  rw [← ht10] at H10
  clear hSp10 hGp10
  have hl10 : t9.1 + 1 ≤ t10.1 ∧ t10.1 ≤ t9.1 + 3 := by rw [ht10]; exact sayN_1
  have hY10 := YI.y H10
  have hcy10 := YI.c H10
  have hzy10 := (YI.sb H10).z
  have hny10 := H_n H10
  refine kt_v (pc' := 378) rfl <| ok_bipush (v := 32) (pc' := 380) i195_378 rfl rfl <| ?_
  refine ok_cc i195_380 rfl (cl_v o195 m17_77 na185 rfl rfl (bt rfl) (bt rfl) rfl (by rw [(YI.sb H10).k, o185])) ln185 (pd185 (aR 102) (aI 32)) <| (Ok.deep (sbC (c := 32) (YI.sb H10) (by omega) (by omega) (by omega)) (by omega)).mono (fun o9 g11p M11p p11p => ?_)
  obtain ⟨rfl, V11, C11, hSp11, hGp11⟩ := p11p
  have H11 := YI.ap H10 hSp11 hGp11 (by omega)
  obtain ⟨t11, ht11⟩ : ∃ z : Tx, z = say t10 32 := ⟨_, rfl⟩
  rw [← ht11] at H11
  clear hSp11 hGp11
  have hl11 : t11.1 = t10.1 + 1 := by rw [ht11]; rfl
  have hY11 := YI.y H11
  have hcy11 := YI.c H11
  have hzy11 := (YI.sb H11).z
  have hny11 := H_n H11
  refine kt_v (pc' := 383) rfl <| ok_iload (pc' := 385) i195_383 rfl rfl <| ?_
  refine ok_cc i195_385 rfl (cl_v o195 m17_63 na184 rfl rfl (bt rfl) (bt rfl) rfl (by rw [(YI.sb H11).k, o184])) ln184 (pd184 (aR 102) (aI v4)) <| (Ok.deep (sbI (x := v4) (YI.sb H11) (YI.bs H11) (by omega) (by omega) (by omega)) (by omega)).mono (fun o9 g12p M12p p12p => ?_)
  obtain ⟨rfl, V12, C12, hSp12, hGp12⟩ := p12p
  have H12 := YI.ap H11 hSp12 hGp12 (by have := (sayN_1 (t := t11) (v := v4)).2; omega)
  obtain ⟨t12, ht12⟩ : ∃ z : Tx, z = sayN t11 v4 := ⟨_, rfl⟩
  rw [← ht12] at H12
  clear hSp12 hGp12
  have hl12 : t11.1 + 1 ≤ t12.1 ∧ t12.1 ≤ t11.1 + 3 := by rw [ht12]; exact sayN_1
  have hY12 := YI.y H12
  have hcy12 := YI.c H12
  have hzy12 := (YI.sb H12).z
  have hny12 := H_n H12
  refine kt_v (pc' := 388) rfl <| ok_pop (pc' := 389) i195_388 rfl rfl <| ok_aloadn (pc' := 390) i195_389 rfl rfl <| ok_iloadn (pc' := 391) i195_390 rfl rfl <| ok_iload (pc' := 393) i195_391 rfl rfl <| ok_iload (pc' := 395) i195_393 rfl rfl <| ok_iload (pc' := 397) i195_395 rfl rfl <| ?_
  refine ok_cc i195_397 rfl (cl_v o195 m17_88 na197 rfl rfl (bt rfl) (bt rfl) rfl (by rw [hY12.gr.ky, o197])) ln197 (pd197 (aR 101) (aI v1) (aI v2) (aI v3) (aI v4)) <| (Ok.deep (b197 (x1 := v1) (x2 := v2) (x3 := v3) (x4 := v4) hY12 hVs (by unfold OX; omega) (by omega) (by omega) (hKZ _ (by omega) (by omega) (Or.inr (by omega)))) (by omega)).mono (fun o9 g13b M13b p13b => ?_)
  obtain ⟨rfl, A13, hYb13, eb13, rb13⟩ := p13b
  have H13 := YI.ch H12 hYb13 eb13 rb13
  refine kt_v (pc' := 400) rfl <| ok_pop (pc' := 401) i195_400 rfl rfl <| ok_iinc (pc' := 404) (v := (c + (-1))) (ls' := [aR 101, aR 100, aI (c + (-1)), aI v1, aI v2, aI v3, aI v4]) i195_401 rfl rfl rfl rfl <| ok_goto (pc' := 308) i195_404 rfl <| ?_
  have hPI2 : PI t12 q (ordS s v1 v2 v3 v4) := by rw [ht12, ht11, ht10, ht9, ht8, ht7, ht6, ht5]; exact PI_order hPI (by omega) (by omega) (by omega) (by omega) (by omega)
  have h42 : ordS s v1 v2 v3 v4 4 = s 4 + 1 := upI_eq
  exact ih (j + 1) _ _ _ (by omega) ⟨c + (-1), ((((d + 1) + 1) + 1) + 1), _, _, _, _, _, _, _, _, _, by omega, YI.up H13 (by omega) (by omega), hPI2, by omega, by omega, by omega, rfl, rfl, rfl, rfl, rfl⟩
/-- the lengths of a pattern -/
theorem w195_440 {g : AG} {M : AM} {L x : Nat} {d0 c m : Int} {t1 : Tx} {A : YA} {s q f0 : Int → Int} {V : Nat} {C : Int} {n0 z0 : Nat} {dd : Nat} {w5 w6 : AV} {Q : AO → AG → AM → Prop} (H : YI g M L d0 t1 A s q V C n0 z0) (hX : XR g M A q x m f0) (h5 : s 5 = 0) (hm : 1 ≤ m ∧ m ≤ 3) (hd : 0 ≤ d0 ∧ d0 ≤ 60) (ht : 0 ≤ t1.1 ∧ t1.1 ≤ 250) (hw5 : am_cat w5 = 1) (hw6 : am_cat w6 = 1) (K : ∀ (g : AG) (M : AM) (d : Int) (xs : List Int) (V : Nat) (C : Int) (f : Int → Int), YI g M L d (patT t1 xs) A s q V C (n0 + 6) z0 → XR g M A q x m f → (xs.length : Int) = m → (∀ y ∈ xs, 1 ≤ y ∧ y ≤ 6) → (∀ i : Int, 0 ≤ i → i < m → f i = xs.getD i.toNat 0) → (0 ≤ d ∧ d ≤ d0 + 3) → (patT t1 xs).1 ≤ t1.1 + 12 → Ok (dd + 14) 195 481 [aR 101, aR 100, aI c, aR x, aI m, w5, w6] [] g M Q) : Ok (dd + 14) 195 440 [aR 101, aR 100, aI c, aR x, aI 0, w5, w6] [] g M Q := by
  refine ok_lp (σ := Nat) (fun j ls g M => ∃ (k d : Int) (t : Tx) (xs : List Int) (V : Nat) (C : Int) (f : Int → Int), (k = (j : Int) ∧ k ≤ m) ∧ (xs.length : Int) = k ∧ (∀ y ∈ xs, 1 ≤ y ∧ y ≤ 6) ∧ YI g M L d t A s q V C (n0 + 2 * j) z0 ∧ XR g M A q x m f ∧ (∀ i : Int, 0 ≤ i → i < k → f i = xs.getD i.toNat 0) ∧ t = patT t1 xs ∧ (0 ≤ d ∧ d ≤ d0 + j) ∧ t.1 ≤ t1.1 + 4 * j ∧ ls = [aR 101, aR 100, aI c, aR x, aI k, w5, w6]) (fun j => 4 - j) ?_ 0 _ g M ⟨0, d0, t1, [], V, C, f0, by omega, rfl, fun y hy => (by cases hy), H, hX, fun i i0 i1 => by omega, rfl, by omega, by omega, rfl⟩
  rintro j ls g M ⟨k, d, t, xs, V, C, f, hkj, hlen, hxs, H, hX, hf, htp, hd, ht, rfl⟩ ih
  have hY0 := YI.y H
  have hcy0 := YI.c H
  have hzy0 := (YI.sb H).z
  have hny0 := H_n H
  by_cases hk9 : k = m
  · subst hk9
    have H := YI.up H (n' := n0 + 6) (z' := z0) (by omega) (by omega)
    rw [htp] at H ht
    refine ok_iload (pc' := 442) i195_440 rfl rfl <| ok_aloadn (pc' := 443) i195_442 rfl rfl <| ok_arrlen (v := k) (pc' := 444) i195_443 (hX.1.1) (by decide) (hX.1.2.1) rfl <| ?_
    refine ok_cge (pc1 := 481) (pc2 := 447) i195_444 (by omega) rfl rfl (fun h1 => ?_) (fun h9 => by exfalso; omega)
    exact K _ _ d xs V C f H hX hlen hxs (fun i i0 i1 => hf i i0 i1) (by omega) (by omega)
  have hk2 : 0 ≤ k ∧ k < m := by omega
  refine ok_iload (pc' := 442) i195_440 rfl rfl <| ok_aloadn (pc' := 443) i195_442 rfl rfl <| ok_arrlen (v := m) (pc' := 444) i195_443 (hX.1.1) (by decide) (hX.1.2.1) rfl <| ?_
  refine ok_cge (pc1 := 481) (pc2 := 447) i195_444 (by omega) rfl rfl (fun h9 => by exfalso; omega) (fun h1 => ?_)
  refine ok_aloadn (pc' := 448) i195_447 rfl rfl <| ok_iload (pc' := 450) i195_448 rfl rfl <| ok_aloadn (pc' := 451) i195_450 rfl rfl <| ok_iconst (pc' := 452) i195_451 rfl <| ok_bipush (v := 6) (pc' := 454) i195_452 rfl rfl <| ?_
  refine ok_cc i195_454 rfl (cl_v o195 m17_50 na192 rfl rfl (bt rfl) (bt rfl) rfl (by rw [(YI.dr H).1, o192])) ln192 (pd192 (aR 100) (aI 1) (aI 6)) <| (Ok.deep (t192 (YI.dr H) ⟨by omega, by omega⟩ (by omega)) (by omega)).mono (fun o9 g14d M14d p14d => ?_)
  obtain ⟨v14, rfl, hl14, hh14, eg14, em14⟩ := p14d
  have H14 := YI.dw H (by omega)
  have hX14 := XR.dm (v := d + 1) hX
  rw [← em14, ← eg14] at H14 hX14
  clear em14 eg14
  have hY14 := YI.y H14
  have hcy14 := YI.c H14
  have hzy14 := (YI.sb H14).z
  have hny14 := H_n H14
  refine kt_v (pc' := 457) rfl <| ?_
  have b2 := hX14.1.2.1
  refine ok_iastore (pc' := 458) i195_457 (hX14.1.1) (rfl) (by omega) rfl <| ?_
  obtain ⟨hX15, H15⟩ := XR.st (i := k) (v := v14) hX14 H14 h5
  have hY15 := YI.y H15
  have hcy15 := YI.c H15
  have hzy15 := (YI.sb H15).z
  have hny15 := H_n H15
  refine ok_aloadn (pc' := 459) i195_458 rfl rfl <| ok_getfr (r := 102) (pc' := 462) i195_459 o195 gr17_14 (hY15.gr.ky) (YI.r H15) rfl <| ok_bipush (v := 32) (pc' := 464) i195_462 rfl rfl <| ?_
  refine ok_cc i195_464 rfl (cl_v o195 m17_77 na185 rfl rfl (bt rfl) (bt rfl) rfl (by rw [(YI.sb H15).k, o185])) ln185 (pd185 (aR 102) (aI 32)) <| (Ok.deep (sbC (c := 32) (YI.sb H15) (by omega) (by omega) (by omega)) (by omega)).mono (fun o9 g16p M16p p16p => ?_)
  obtain ⟨rfl, V16, C16, hSp16, hGp16⟩ := p16p
  have hX16 := XR.ap hX15 H15 hGp16
  have H16 := YI.ap H15 hSp16 hGp16 (by omega)
  obtain ⟨t16, ht16⟩ : ∃ z : Tx, z = say t 32 := ⟨_, rfl⟩
  rw [← ht16] at H16
  clear hSp16 hGp16
  have hl16 : t16.1 = t.1 + 1 := by rw [ht16]; rfl
  have hY16 := YI.y H16
  have hcy16 := YI.c H16
  have hzy16 := (YI.sb H16).z
  have hny16 := H_n H16
  refine kt_v (pc' := 467) rfl <| ok_aloadn (pc' := 468) i195_467 rfl rfl <| ok_iload (pc' := 470) i195_468 rfl rfl <| ?_
  have b3 := hX16.1.2.1
  refine ok_iaload (v := v14) (pc' := 471) i195_470 (hX16.1.1) (by decide) (rfl) (by omega) (((hX16.1.2.2 k (by omega) (by omega)).trans upI_eq)) rfl <| ?_
  refine ok_cc i195_471 rfl (cl_v o195 m17_63 na184 rfl rfl (bt rfl) (bt rfl) rfl (by rw [(YI.sb H16).k, o184])) ln184 (pd184 (aR 102) (aI v14)) <| (Ok.deep (sbI (x := v14) (YI.sb H16) (YI.bs H16) (by omega) (by omega) (by omega)) (by omega)).mono (fun o9 g17p M17p p17p => ?_)
  obtain ⟨rfl, V17, C17, hSp17, hGp17⟩ := p17p
  have hX17 := XR.ap hX16 H16 hGp17
  have H17 := YI.ap H16 hSp17 hGp17 (by have := (sayN_1 (t := t16) (v := v14)).2; omega)
  obtain ⟨t17, ht17⟩ : ∃ z : Tx, z = sayN t16 v14 := ⟨_, rfl⟩
  rw [← ht17] at H17
  clear hSp17 hGp17
  have hl17 : t16.1 + 1 ≤ t17.1 ∧ t17.1 ≤ t16.1 + 3 := by rw [ht17]; exact sayN_1
  have hY17 := YI.y H17
  have hcy17 := YI.c H17
  have hzy17 := (YI.sb H17).z
  have hny17 := H_n H17
  refine kt_v (pc' := 474) rfl <| ok_pop (pc' := 475) i195_474 rfl rfl <| ok_iinc (pc' := 478) (v := (k + 1)) (ls' := [aR 101, aR 100, aI c, aR x, aI (k + 1), w5, w6]) i195_475 rfl rfl rfl rfl <| ok_goto (pc' := 440) i195_478 rfl <| ?_
  exact ih (j + 1) _ _ _ (by omega) ⟨k + 1, (d + 1), _, xs ++ [v14], _, _, (upI f k v14), by omega, by simp only [List.length_append, List.length_cons, List.length_nil]; omega, fun y hy => (List.mem_append.mp hy).elim (fun h => hxs y h) (fun h => by rw [List.mem_singleton.mp h]; omega), YI.up H17 (by omega) (by omega), hX17, fun i i0 i1 => by
    by_cases hik : i = k
    · subst hik; rw [upI_eq, List.getD_eq_getElem?_getD, List.getElem?_append_right (by omega), show i.toNat - xs.length = 0 by omega]; rfl
    · rw [upI_ne hik, hf i i0 (by omega), List.getD_eq_getElem?_getD, List.getD_eq_getElem?_getD, List.getElem?_append_left (by omega)], by rw [ht17, ht16]; rw [patT_end (t := t1), htp], by omega, by omega, rfl⟩
