/-! THE YARD IS DRAWN (by program, wip/p60/gen) -/
theorem pi195_56 : am_pfi 195 17 56 17 14 = true := by decide +kernel
theorem pi195_60 : am_pfi 195 17 60 17 15 = true := by decide +kernel
theorem sr17_67 : (am_sr 17 67).map (fun q => q.2.1) = some 28 := by decide +kernel
theorem cn17_67 : am_ct 17 67 = none := by decide +kernel
theorem w195_78 {g : AG} {M : AM} {L : Nat} {A : YA} {dd : Nat} {Q : AO → AG → AM → Prop} (H : YI g M L 0 (sayW t00 (stx 8) (stn 8)) A zro zro 103 26 60 900) (K : ∀ (g1 : AG) (M1 : AM) (c d : Int) (t : Tx) (A : YA) (s : Int → Int) (V : Nat) (C : Int), YI g1 M1 L d t A s zro V C 70 1000 → PI t zro s → s 3 = 0 → s 4 = 0 → (1 ≤ c ∧ c ≤ 3) → (0 ≤ d ∧ d ≤ 10) → t.1 ≤ 40 → Ok (dd + 14) 195 130 [aR 101, aR 100, aI c, aU, aU, aU, aU] [] g1 M1 Q) : Ok (dd + 14) 195 78 [aR 101, aR 100, aU, aU, aU, aU, aU] [] g M Q := by
  obtain ⟨t, ht⟩ : ∃ z : Tx, z = sayW t00 (stx 8) (stn 8) := ⟨_, rfl⟩
  have htl : t.1 = 10 := by rw [ht, sayW_l (m := 10) (by decide)]; rfl
  rw [← ht] at H
  obtain ⟨d, hd⟩ : ∃ d : Int, d = 0 := ⟨_, rfl⟩
  rw [← hd] at H
  obtain ⟨V, hV⟩ : ∃ V : Nat, V = 103 := ⟨_, rfl⟩
  rw [← hV] at H
  obtain ⟨C, hC⟩ : ∃ C : Int, C = 26 := ⟨_, rfl⟩
  rw [← hC] at H
  obtain ⟨n, hn⟩ : ∃ n : Nat, n = 60 := ⟨_, rfl⟩
  rw [← hn] at H
  obtain ⟨z, hz⟩ : ∃ z : Nat, z = 900 := ⟨_, rfl⟩
  rw [← hz] at H
  have hY0 := YI.y H
  have hcy0 := YI.c H
  have hzy0 := (YI.sb H).z
  have hny0 := H_n H
  have hs3 : ∀ v w : Int, upI (upI zro 1 v) 2 w 3 = 0 := fun v w => rfl
  have hs4 : ∀ v w : Int, upI (upI zro 1 v) 2 w 4 = 0 := fun v w => rfl
  refine ok_aloadn (pc' := 79) i195_78 rfl rfl <| ok_aloadn (pc' := 80) i195_79 rfl rfl <| ok_iconst (pc' := 81) i195_80 rfl <| ok_iconst (pc' := 82) i195_81 rfl <| ?_
  refine ok_cc i195_82 rfl (cl_v o195 m17_50 na192 rfl rfl (bt rfl) (bt rfl) rfl (by rw [(YI.dr H).1, o192])) ln192 (pd192 (aR 100) (aI 0) (aI 2)) <| (Ok.deep (t192 (YI.dr H) ⟨by omega, by omega⟩ (by omega)) (by omega)).mono (fun o9 g1d M1d p1d => ?_)
  obtain ⟨v1, rfl, hl1, hh1, eg1, em1⟩ := p1d
  have H1 := YI.dw H (by omega)
  rw [← em1, ← eg1] at H1
  clear em1 eg1
  have hY1 := YI.y H1
  have hcy1 := YI.c H1
  have hzy1 := (YI.sb H1).z
  have hny1 := H_n H1
  refine kt_v (pc' := 85) rfl <| ok_putfj (kk := 14) (pc' := 88) i195_85 o195 pi195_56 (hY1.gr.ky) rfl rfl <| ?_
  have hYw2 := Yd.wy14 (v := v1) hY1
  have H2 := YI.ch H1 hYw2 (Fr.up (x := 14) (v := v1) (Fr.rfl (F := FI)) (Or.inl (by unfold FI; omega))) rfl
  have hY2 := YI.y H2
  have hcy2 := YI.c H2
  have hzy2 := (YI.sb H2).z
  have hny2 := H_n H2
  refine ok_aloadn (pc' := 89) i195_88 rfl rfl <| ok_aloadn (pc' := 90) i195_89 rfl rfl <| ok_iconst (pc' := 91) i195_90 rfl <| ok_bipush (v := 6) (pc' := 93) i195_91 rfl rfl <| ?_
  refine ok_cc i195_93 rfl (cl_v o195 m17_50 na192 rfl rfl (bt rfl) (bt rfl) rfl (by rw [(YI.dr H2).1, o192])) ln192 (pd192 (aR 100) (aI 1) (aI 6)) <| (Ok.deep (t192 (YI.dr H2) ⟨by omega, by omega⟩ (by omega)) (by omega)).mono (fun o9 g3d M3d p3d => ?_)
  obtain ⟨v3, rfl, hl3, hh3, eg3, em3⟩ := p3d
  have H3 := YI.dw H2 (by omega)
  rw [← em3, ← eg3] at H3
  clear em3 eg3
  have hY3 := YI.y H3
  have hcy3 := YI.c H3
  have hzy3 := (YI.sb H3).z
  have hny3 := H_n H3
  refine kt_v (pc' := 96) rfl <| ok_putfj (kk := 15) (pc' := 99) i195_96 o195 pi195_60 (hY3.gr.ky) rfl rfl <| ?_
  have hYw4 := Yd.wy15 (v := v3) hY3
  have H4 := YI.ch H3 hYw4 (Fr.up (x := 15) (v := v3) (Fr.rfl (F := FI)) (Or.inl (by unfold FI; omega))) rfl
  have hY4 := YI.y H4
  have hcy4 := YI.c H4
  have hzy4 := (YI.sb H4).z
  have hny4 := H_n H4
  refine ok_aloadn (pc' := 100) i195_99 rfl rfl <| ok_getfr (r := 102) (pc' := 103) i195_100 o195 gr17_14 (hY4.gr.ky) (YI.r H4) rfl <| ok_aloadn (pc' := 104) i195_103 rfl rfl <| ok_getfi (v := v1) (pc' := 107) i195_104 o195 gi17_56 (hY4.gr.ky) ((Eq.trans (Yd.n1 hY4) (by rw [upI_ne (by omega), upI_eq]))) rfl <| ?_
  refine ok_cc i195_107 rfl (cl_v o195 m17_63 na184 rfl rfl (bt rfl) (bt rfl) rfl (by rw [(YI.sb H4).k, o184])) ln184 (pd184 (aR 102) (aI v1)) <| (Ok.deep (sbI (x := v1) (YI.sb H4) (YI.bs H4) (by omega) (by omega) (by omega)) (by omega)).mono (fun o9 g5p M5p p5p => ?_)
  obtain ⟨rfl, V5, C5, hSp5, hGp5⟩ := p5p
  have H5 := YI.ap H4 hSp5 hGp5 (by have := (sayN_1 (t := t) (v := v1)).2; omega)
  obtain ⟨t5, ht5⟩ : ∃ z : Tx, z = sayN t v1 := ⟨_, rfl⟩
  rw [← ht5] at H5
  clear hSp5 hGp5
  have hl5 : t.1 + 1 ≤ t5.1 ∧ t5.1 ≤ t.1 + 3 := by rw [ht5]; exact sayN_1
  have hY5 := YI.y H5
  have hcy5 := YI.c H5
  have hzy5 := (YI.sb H5).z
  have hny5 := H_n H5
  refine kt_v (pc' := 110) rfl <| ok_ldcz (pc' := 112) i195_110 o195 cn17_67 sr17_67 rfl <| ?_
  have hst := BS.str (YI.bs H5) (j := 9) (by decide)
  refine ok_cc i195_112 rfl (cl_v o195 m17_69 na183 rfl rfl (bt rfl) (bt rfl) rfl (by rw [(YI.sb H5).k, o183])) ln183 (pd183 (aR 102) (aR 28)) <| (Ok.deep (sbS (m := 6) (tx := stx 9) (YI.sb H5) hst.1 rfl (by decide) (by decide) (by decide) (fun i i0 i1 => ⟨hst.2 i i0 i1, tb (P := fun i => 0 ≤ stx 9 i ∧ stx 9 i ≤ 127) (m := 6) (by decide) i i0 i1⟩) (by omega) (by omega)) (by omega)).mono (fun o9 g6p M6p p6p => ?_)
  obtain ⟨rfl, V6, C6, hSp6, hGp6⟩ := p6p
  have H6 := YI.ap H5 hSp6 hGp6 (by rw [sayW_1]; show _ + ((6 : Nat) : Int) ≤ _; omega)
  obtain ⟨t6, ht6⟩ : ∃ z : Tx, z = sayW t5 (stx 9) (stn 9) := ⟨_, rfl⟩
  rw [← ht6] at H6
  clear hSp6 hGp6
  have hl6 : t6.1 = t5.1 + 6 := by rw [ht6]; exact sayW_1 _
  have hY6 := YI.y H6
  have hcy6 := YI.c H6
  have hzy6 := (YI.sb H6).z
  have hny6 := H_n H6
  refine kt_v (pc' := 115) rfl <| ok_aloadn (pc' := 116) i195_115 rfl rfl <| ok_getfi (v := v3) (pc' := 119) i195_116 o195 gi17_60 (hY6.gr.ky) ((Eq.trans (Yd.n2 hY6) (by rw [upI_eq]))) rfl <| ?_
  refine ok_cc i195_119 rfl (cl_v o195 m17_63 na184 rfl rfl (bt rfl) (bt rfl) rfl (by rw [(YI.sb H6).k, o184])) ln184 (pd184 (aR 102) (aI v3)) <| (Ok.deep (sbI (x := v3) (YI.sb H6) (YI.bs H6) (by omega) (by omega) (by omega)) (by omega)).mono (fun o9 g7p M7p p7p => ?_)
  obtain ⟨rfl, V7, C7, hSp7, hGp7⟩ := p7p
  have H7 := YI.ap H6 hSp7 hGp7 (by have := (sayN_1 (t := t6) (v := v3)).2; omega)
  obtain ⟨t7, ht7⟩ : ∃ z : Tx, z = sayN t6 v3 := ⟨_, rfl⟩
  rw [← ht7] at H7
  clear hSp7 hGp7
  have hl7 : t6.1 + 1 ≤ t7.1 ∧ t7.1 ≤ t6.1 + 3 := by rw [ht7]; exact sayN_1
  have hY7 := YI.y H7
  have hcy7 := YI.c H7
  have hzy7 := (YI.sb H7).z
  have hny7 := H_n H7
  refine kt_v (pc' := 122) rfl <| ok_pop (pc' := 123) i195_122 rfl rfl <| ok_aloadn (pc' := 124) i195_123 rfl rfl <| ok_iconst (pc' := 125) i195_124 rfl <| ok_iconst (pc' := 126) i195_125 rfl <| ?_
  refine ok_cc i195_126 rfl (cl_v o195 m17_50 na192 rfl rfl (bt rfl) (bt rfl) rfl (by rw [(YI.dr H7).1, o192])) ln192 (pd192 (aR 100) (aI 1) (aI 3)) <| (Ok.deep (t192 (YI.dr H7) ⟨by omega, by omega⟩ (by omega)) (by omega)).mono (fun o9 g8d M8d p8d => ?_)
  obtain ⟨v8, rfl, hl8, hh8, eg8, em8⟩ := p8d
  have H8 := YI.dw H7 (by omega)
  rw [← em8, ← eg8] at H8
  clear em8 eg8
  have hY8 := YI.y H8
  have hcy8 := YI.c H8
  have hzy8 := (YI.sb H8).z
  have hny8 := H_n H8
  refine kt_v (pc' := 129) rfl <| ok_istoren (pc' := 130) (ls' := [aR 101, aR 100, aI v8, aU, aU, aU, aU]) i195_129 (bt rfl) rfl rfl <| ?_
  have hPI : PI t7 zro (upI (upI zro 1 v1) 2 v3) := by rw [ht7, ht6, ht5]; rw [ht]; exact PI_head (by omega) (by omega)
  exact K _ _ v8 (((d + 1) + 1) + 1) t7 _ _ _ _ (YI.up H8 (by omega) (by omega)) hPI (hs3 _ _) (hs4 _ _) (by omega) (by omega) (by omega)
/-- the yard is drawn -/
theorem t195 {g : AG} {M : AM} {L : Nat} {dd : Nat} {Q : AO → AG → AM → Prop} (hN : gN g = 2) (hS : gS g ≤ 40) (hK : gK g 101 = 17) (hM : ∀ i : Int, M 101 i = 0) (hD : Dr g M L 0) (hBS : BS g M) (K : ∀ (g1 : AG) (M1 : AM) (d : Int) (t : Tx) (A : YA) (s q : Int → Int) (V : Nat) (C : Int), YI g1 M1 L d t A s q V C 194 1172 → PI t q s → (0 ≤ d ∧ d ≤ 47) → t.1 ≤ 255 → 1 ≤ q 0 → Q (.inl none) g1 M1) : Ok (dd + 14) 195 0 [aR 101, aR 100, aU, aU, aU, aU, aU] [] g M Q := by
  refine w195_0 hN hS hK hM hD hBS (fun g1 M1 A H0 => ?_)
  refine w195_78 H0 (fun g1 M1 c d t A s V C H1 hPI1 h3 h4 hc hd ht => ?_)
  refine w195_130 (dd := dd) H1 (by omega) hPI1 rfl rfl hc hd ht (fun g2 M2 c d2 t2 A2 q V2 C2 w H2 hPI2 hKP hq1 hq0 hd2 ht2 hw3 hw4 => ?_)
  obtain ⟨w3, w4⟩ := w
  have hYH2 := YI.y H2
  have hcyH2 := YI.c H2
  have hnyH2 := H_n H2
  refine ok_aloadn (pc' := 220) i195_219 rfl rfl <| ok_iconst (pc' := 221) i195_220 rfl <| ok_iconst (pc' := 222) i195_221 rfl <| ?_
  refine ok_cc i195_222 rfl (cl_v o195 m17_50 na192 rfl rfl (bt rfl) (bt rfl) rfl (by rw [(YI.dr H2).1, o192])) ln192 (pd192 (aR 100) (aI 0) (aI 2)) <| (Ok.deep (t192 (YI.dr H2) ⟨by omega, by omega⟩ (by omega)) (by omega)).mono (fun o9 g9d M9d p9d => ?_)
  obtain ⟨v9, rfl, hl9, hh9, eg9, em9⟩ := p9d
  have H9 := YI.dw H2 (by omega)
  rw [← em9, ← eg9] at H9
  clear em9 eg9
  have hY9 := YI.y H9
  have hcy9 := YI.c H9
  have hzy9 := (YI.sb H9).z
  have hny9 := H_n H9
  refine kt_v (pc' := 225) rfl <| ok_istoren (pc' := 226) (ls' := [aR 101, aR 100, aI v9, w3, w4, aU, aU]) i195_225 (bt rfl) rfl rfl <| ?_
  refine w195_226 (dd := dd) H9 (by omega) hPI2 h3 h4 hq0 (by omega) (by omega) ht2 hw3 hw4 (fun g3 M3 c3 d3 t3 A3 s3 V3 C3 w H3 hPI3 h33 h34 hd3 ht3 hw3 hw4 hw5 => ?_)
  have hYH3 := YI.y H3
  have hcyH3 := YI.c H3
  have hnyH3 := H_n H3
  refine ok_aloadn (pc' := 302) i195_301 rfl rfl <| ok_iconst (pc' := 303) i195_302 rfl <| ok_iconst (pc' := 304) i195_303 rfl <| ?_
  refine ok_cc i195_304 rfl (cl_v o195 m17_50 na192 rfl rfl (bt rfl) (bt rfl) rfl (by rw [(YI.dr H3).1, o192])) ln192 (pd192 (aR 100) (aI 0) (aI 4)) <| (Ok.deep (t192 (YI.dr H3) ⟨by omega, by omega⟩ (by omega)) (by omega)).mono (fun o9 g10d M10d p10d => ?_)
  obtain ⟨v10, rfl, hl10, hh10, eg10, em10⟩ := p10d
  have H10 := YI.dw H3 (by omega)
  rw [← em10, ← eg10] at H10
  clear em10 eg10
  have hY10 := YI.y H10
  have hcy10 := YI.c H10
  have hzy10 := (YI.sb H10).z
  have hny10 := H_n H10
  refine kt_v (pc' := 307) rfl <| ok_istoren (pc' := 308) (ls' := [aR 101, aR 100, aI v10, w.1, w.2.1, w.2.2, aU]) i195_307 (bt rfl) rfl rfl <| ?_
  refine w195_308 (dd := dd) H10 (by omega) hPI3 h34 (by omega) (by omega) ht3 hw3 hw4 hw5 (fun g4 M4 c4 d4 t4 A4 s4 V4 C4 w H4 hPI4 hd4 ht4 hw3 hw4 hw5 hw6 => ?_)
  have hYH4 := YI.y H4
  have hcyH4 := YI.c H4
  have hnyH4 := H_n H4
  refine ok_aloadn (pc' := 408) i195_407 rfl rfl <| ok_iconst (pc' := 409) i195_408 rfl <| ok_iconst (pc' := 410) i195_409 rfl <| ?_
  refine ok_cc i195_410 rfl (cl_v o195 m17_50 na192 rfl rfl (bt rfl) (bt rfl) rfl (by rw [(YI.dr H4).1, o192])) ln192 (pd192 (aR 100) (aI 0) (aI 2)) <| (Ok.deep (t192 (YI.dr H4) ⟨by omega, by omega⟩ (by omega)) (by omega)).mono (fun o9 g11d M11d p11d => ?_)
  obtain ⟨v11, rfl, hl11, hh11, eg11, em11⟩ := p11d
  have H11 := YI.dw H4 (by omega)
  rw [← em11, ← eg11] at H11
  clear em11 eg11
  have hY11 := YI.y H11
  have hcy11 := YI.c H11
  have hzy11 := (YI.sb H11).z
  have hny11 := H_n H11
  refine kt_v (pc' := 413) rfl <| ok_istoren (pc' := 414) (ls' := [aR 101, aR 100, aI v11, w.1, w.2.1, w.2.2.1, w.2.2.2]) i195_413 (bt rfl) rfl rfl <| ?_
  exact w195_414 (dd := dd) rfl H11 (by omega) hPI4 hq1 (by omega) (by omega) ht4 hw3 hw4 hw5 hw6 (fun g5 M5 d5 t5 A5 q5 V5 C5 H5 hPI5 hd5 ht5 hz5 => K _ _ _ _ _ _ _ _ _ H5 hPI5 hd5 ht5 (by rw [hz5]; exact hq0.1))
