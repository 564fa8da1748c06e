/-! ALIKE (by program, wip/p60/gen) -/
theorem o213 : am_oc 213 = 13 := by decide +kernel
theorem gi13_141 : am_gfi 13 141 17 13 = true := by decide +kernel
theorem gi13_146 : am_gfi 13 146 17 14 = true := by decide +kernel
theorem gi13_149 : am_gfi 13 149 17 15 = true := by decide +kernel
theorem gi13_152 : am_gfi 13 152 17 10 = true := by decide +kernel
theorem gi13_155 : am_gfi 13 155 17 11 = true := by decide +kernel
theorem m13_158 : am_mlk 13 158 0 94 = true := by decide +kernel
theorem na94 : am_na 94 = 0 := by decide +kernel
theorem nl94 : am_nL 94 = 1 := by decide +kernel
theorem pd94 : ∀ a0 : AV, am_pad 94 [a0] = [a0] := by intros; unfold am_pad; rw [nl94]; rfl
theorem ln94 : 1 ≤ am_nL 94 := by rw [nl94]; decide
theorem gi13_161 : am_gfi 13 161 17 12 = true := by decide +kernel
theorem gr13_164 : am_gfr 13 164 17 7 = true := by decide +kernel
theorem w213_0 {g : AG} {M : AM} {O : Nat} {A : YA} {s q : Int → Int} {b : Int} {d : Nat} {Q : AO → AG → AM → Prop} (hY : Yd g M O A s q) (hW : CW g M O b q s) (K : Ok (d + 2) 213 74 [aR O, aR 101, aI 0, aU, aU, aU] [] g M Q) : Ok (d + 2) 213 0 [aR O, aR 101, aU, aU, aU, aU] [] g M Q := by
  have hV := hW.2.1.v
  have hQ := V_q hV
  have y3 := V_3 hV
  have y4 := V_4 hV
  have y5 := V_5 hV
  have yq0 := Q_0 hQ
  have yq1 := Q_1 hQ
  refine ok_aloadn (pc' := 1) i213_0 rfl rfl <| ?_
  refine ok_cc i213_1 rfl (cl_v o213 m13_126 na111 rfl rfl (bt rfl) (bt rfl) rfl (by rw [(ShYard_k0 hW.1.y), o111])) ln111 (pd111 (aR O)) <| (Ok.deep (y111 (Y := O) (P := O + 38) (A := O + 49) (V := O + 73) (T := O + 74) (K := O + 100) (H := O + 102) (X := O + 346) hW.1.y hW.1.w hW.1.p hW.1.s hW.2.1.p hW.2.1.s hQ hV hW.2.1.l) (by omega)).mono (fun o9 g1q M1q p1q => ?_)
  obtain ⟨rfl, eg1q, em1q⟩ := p1q
  rw [eg1q, em1q]
  refine kt_v (pc' := 4) rfl <| ok_aloadn (pc' := 5) i213_4 rfl rfl <| ?_
  have z1 : 0 ≤ s 0 ∧ s 0 ≤ 1000000 := V_0 hV
  refine ok_getfi (v := (s 0)) (pc' := 8) i213_5 o213 gi13_141 (hY.gr.ky) ((Yd.n0 hY)) rfl <| ok_cnes (pc1 := 70) (pc2 := 11) i213_8 rfl rfl <| ok_aloadn (pc' := 12) i213_11 rfl rfl <| ok_iconst (pc' := 13) i213_12 rfl <| ?_
  refine ok_cc i213_13 rfl (cl_v o213 m13_123 na110 rfl rfl (bt rfl) (bt rfl) rfl (by rw [(ShYard_k0 hW.1.y), o110])) ln110 (pd110 (aR O) (aI 0)) <| (Ok.deep (y110_0 (Y := O) (P := O + 38) (A := O + 49) (V := O + 73) (T := O + 74) (K := O + 100) (H := O + 102) (X := O + 346) hW.1.y hW.1.w hW.1.p hW.1.s hW.2.1.p hW.2.1.s hQ hV hW.2.1.l) (by omega)).mono (fun o9 g2q M2q p2q => ?_)
  obtain ⟨rfl, eg2q, em2q⟩ := p2q
  rw [eg2q, em2q]
  refine kt_v (pc' := 16) rfl <| ok_aloadn (pc' := 17) i213_16 rfl rfl <| ?_
  have z2 : 0 ≤ s 1 ∧ s 1 ≤ 9 := V_1 hV
  refine ok_getfi (v := (s 1)) (pc' := 20) i213_17 o213 gi13_146 (hY.gr.ky) ((Yd.n1 hY)) rfl <| ok_cnes (pc1 := 70) (pc2 := 23) i213_20 rfl rfl <| ok_aloadn (pc' := 24) i213_23 rfl rfl <| ok_iconst (pc' := 25) i213_24 rfl <| ?_
  refine ok_cc i213_25 rfl (cl_v o213 m13_123 na110 rfl rfl (bt rfl) (bt rfl) rfl (by rw [(ShYard_k0 hW.1.y), o110])) ln110 (pd110 (aR O) (aI 1)) <| (Ok.deep (y110_1 (Y := O) (P := O + 38) (A := O + 49) (V := O + 73) (T := O + 74) (K := O + 100) (H := O + 102) (X := O + 346) hW.1.y hW.1.w hW.1.p hW.1.s hW.2.1.p hW.2.1.s hQ hV hW.2.1.l) (by omega)).mono (fun o9 g3q M3q p3q => ?_)
  obtain ⟨rfl, eg3q, em3q⟩ := p3q
  rw [eg3q, em3q]
  refine kt_v (pc' := 28) rfl <| ok_aloadn (pc' := 29) i213_28 rfl rfl <| ?_
  have z3 : 1 ≤ s 2 ∧ s 2 ≤ 200 := V_2 hV
  refine ok_getfi (v := (s 2)) (pc' := 32) i213_29 o213 gi13_149 (hY.gr.ky) ((Yd.n2 hY)) rfl <| ok_cnes (pc1 := 70) (pc2 := 35) i213_32 rfl rfl <| ok_aloadn (pc' := 36) i213_35 rfl rfl <| ok_iconst (pc' := 37) i213_36 rfl <| ?_
  refine ok_cc i213_37 rfl (cl_v o213 m13_33 na98 rfl rfl (bt rfl) (bt rfl) rfl (by rw [(ShYard_k0 hW.1.y), o98])) ln98 (pd98 (aR O) (aI 1)) <| (Ok.deep (y98_1 (Y := O) (P := O + 38) (A := O + 49) (V := O + 73) (T := O + 74) (K := O + 100) (H := O + 102) (X := O + 346) hW.1.y hW.1.w hW.1.p hW.1.s hW.2.1.p hW.2.1.s hQ hV hW.2.1.l) (by omega)).mono (fun o9 g4q M4q p4q => ?_)
  obtain ⟨rfl, eg4q, em4q⟩ := p4q
  rw [eg4q, em4q]
  refine kt_v (pc' := 40) rfl <| ok_aloadn (pc' := 41) i213_40 rfl rfl <| ok_getfi (v := (s 3)) (pc' := 44) i213_41 o213 gi13_152 (hY.gr.ky) ((Yd.n3 hY)) rfl <| ok_cnes (pc1 := 70) (pc2 := 47) i213_44 rfl rfl <| ok_aloadn (pc' := 48) i213_47 rfl rfl <| ok_iconst (pc' := 49) i213_48 rfl <| ?_
  refine ok_cc i213_49 rfl (cl_v o213 m13_33 na98 rfl rfl (bt rfl) (bt rfl) rfl (by rw [(ShYard_k0 hW.1.y), o98])) ln98 (pd98 (aR O) (aI 2)) <| (Ok.deep (y98_2 (Y := O) (P := O + 38) (A := O + 49) (V := O + 73) (T := O + 74) (K := O + 100) (H := O + 102) (X := O + 346) hW.1.y hW.1.w hW.1.p hW.1.s hW.2.1.p hW.2.1.s hQ hV hW.2.1.l) (by omega)).mono (fun o9 g5q M5q p5q => ?_)
  obtain ⟨rfl, eg5q, em5q⟩ := p5q
  rw [eg5q, em5q]
  refine kt_v (pc' := 52) rfl <| ok_aloadn (pc' := 53) i213_52 rfl rfl <| ok_getfi (v := (s 4)) (pc' := 56) i213_53 o213 gi13_155 (hY.gr.ky) ((Yd.n4 hY)) rfl <| ok_cnes (pc1 := 70) (pc2 := 59) i213_56 rfl rfl <| ok_aloadn (pc' := 60) i213_59 rfl rfl <| ?_
  refine ok_cc i213_60 rfl (cl_v o213 m13_158 na94 rfl rfl (bt rfl) (bt rfl) rfl (by rw [(ShYard_k0 hW.1.y), o94])) ln94 (pd94 (aR O)) <| (Ok.deep (y94 (Y := O) (P := O + 38) (A := O + 49) (V := O + 73) (T := O + 74) (K := O + 100) (H := O + 102) (X := O + 346) hW.1.y hW.1.w hW.1.p hW.1.s hW.2.1.p hW.2.1.s hQ hV hW.2.1.l) (by omega)).mono (fun o9 g6q M6q p6q => ?_)
  obtain ⟨rfl, eg6q, em6q⟩ := p6q
  rw [eg6q, em6q]
  refine kt_v (pc' := 63) rfl <| ok_aloadn (pc' := 64) i213_63 rfl rfl <| ok_getfi (v := (s 5)) (pc' := 67) i213_64 o213 gi13_161 (hY.gr.ky) ((Yd.n5 hY)) rfl <| ok_ceqs (pc1 := 72) (pc2 := 70) i213_67 rfl rfl <| ok_iconst (pc' := 73) i213_72 rfl <| ok_istoren (pc' := 74) (ls' := [aR O, aR 101, aI 0, aU, aU, aU]) i213_73 (bt rfl) rfl rfl <| ?_
  exact K
theorem w213_74 {g : AG} {M : AM} {O : Nat} {A : YA} {s q : Int → Int} {b : Int} {d : Nat} {Q : AO → AG → AM → Prop} (hY : Yd g M O A s q) (hW : CW g M O b q s) (K : Ok (d + 2) 213 104 [aR O, aR 101, aI 0, aU, aU, aU] [] g M Q) : Ok (d + 2) 213 74 [aR O, aR 101, aI 0, aU, aU, aU] [] g M Q := by
  have hV := hW.2.1.v
  have hQ := V_q hV
  have y3 := V_3 hV
  have y4 := V_4 hV
  have y5 := V_5 hV
  have yq0 := Q_0 hQ
  have yq1 := Q_1 hQ
  refine ok_iloadn (pc' := 75) i213_74 rfl rfl <| ok_bipush (v := 8) (pc' := 77) i213_75 rfl rfl <| ok_kc0 (pc1 := 102) (pc2 := 80) i213_77 (by decide) rfl rfl <| ok_aloadn (pc' := 81) i213_80 rfl rfl <| ok_iloadn (pc' := 82) i213_81 rfl rfl <| ?_
  refine ok_cc i213_82 rfl (cl_v o213 m13_71 na135 rfl rfl (bt rfl) (bt rfl) rfl (by rw [(ShYard_k0 hW.1.y), o135])) ln135 (pd135 (aR O) (aI 0)) <| (Ok.deep (y135_0 (Y := O) (P := O + 38) (A := O + 49) (V := O + 73) (T := O + 74) (K := O + 100) (H := O + 102) (X := O + 346) hW.1.y hW.1.w hW.1.p hW.1.s hW.2.1.p hW.2.1.s hQ hV hW.2.1.l) (by omega)).mono (fun o9 g7q M7q p7q => ?_)
  obtain ⟨rfl, eg7q, em7q⟩ := p7q
  rw [eg7q, em7q]
  refine kt_v (pc' := 85) rfl <| ok_aloadn (pc' := 86) i213_85 rfl rfl <| ok_getfr (r := 110) (pc' := 89) i213_86 o213 gr13_164 (hY.gr.ky) (hY.gr.r7) rfl <| ok_iloadn (pc' := 90) i213_89 rfl rfl <| ok_iaload (v := (s 6)) (pc' := 91) i213_90 (hY.gr.ka) (by decide) (hY.gr.la) (by decide) ((Yd.acz hY (i := 0) (z := 6) (by omega) (by omega) (by omega))) rfl <| ok_ceqs (pc1 := 96) (pc2 := 94) i213_91 rfl rfl <| ok_iinc (pc' := 99) (v := 1) (ls' := [aR O, aR 101, aI 1, aU, aU, aU]) i213_96 rfl rfl rfl rfl <| ok_goto (pc' := 74) i213_99 rfl <| ?_
  refine ok_iloadn (pc' := 75) i213_74 rfl rfl <| ok_bipush (v := 8) (pc' := 77) i213_75 rfl rfl <| ok_kc0 (pc1 := 102) (pc2 := 80) i213_77 (by decide) rfl rfl <| ok_aloadn (pc' := 81) i213_80 rfl rfl <| ok_iloadn (pc' := 82) i213_81 rfl rfl <| ?_
  refine ok_cc i213_82 rfl (cl_v o213 m13_71 na135 rfl rfl (bt rfl) (bt rfl) rfl (by rw [(ShYard_k0 hW.1.y), o135])) ln135 (pd135 (aR O) (aI 1)) <| (Ok.deep (y135_1 (Y := O) (P := O + 38) (A := O + 49) (V := O + 73) (T := O + 74) (K := O + 100) (H := O + 102) (X := O + 346) hW.1.y hW.1.w hW.1.p hW.1.s hW.2.1.p hW.2.1.s hQ hV hW.2.1.l) (by omega)).mono (fun o9 g8q M8q p8q => ?_)
  obtain ⟨rfl, eg8q, em8q⟩ := p8q
  rw [eg8q, em8q]
  refine kt_v (pc' := 85) rfl <| ok_aloadn (pc' := 86) i213_85 rfl rfl <| ok_getfr (r := 110) (pc' := 89) i213_86 o213 gr13_164 (hY.gr.ky) (hY.gr.r7) rfl <| ok_iloadn (pc' := 90) i213_89 rfl rfl <| ok_iaload (v := (s 7)) (pc' := 91) i213_90 (hY.gr.ka) (by decide) (hY.gr.la) (by decide) ((Yd.acz hY (i := 1) (z := 7) (by omega) (by omega) (by omega))) rfl <| ok_ceqs (pc1 := 96) (pc2 := 94) i213_91 rfl rfl <| ok_iinc (pc' := 99) (v := 2) (ls' := [aR O, aR 101, aI 2, aU, aU, aU]) i213_96 rfl rfl rfl rfl <| ok_goto (pc' := 74) i213_99 rfl <| ?_
  refine ok_iloadn (pc' := 75) i213_74 rfl rfl <| ok_bipush (v := 8) (pc' := 77) i213_75 rfl rfl <| ok_kc0 (pc1 := 102) (pc2 := 80) i213_77 (by decide) rfl rfl <| ok_aloadn (pc' := 81) i213_80 rfl rfl <| ok_iloadn (pc' := 82) i213_81 rfl rfl <| ?_
  refine ok_cc i213_82 rfl (cl_v o213 m13_71 na135 rfl rfl (bt rfl) (bt rfl) rfl (by rw [(ShYard_k0 hW.1.y), o135])) ln135 (pd135 (aR O) (aI 2)) <| (Ok.deep (y135_2 (Y := O) (P := O + 38) (A := O + 49) (V := O + 73) (T := O + 74) (K := O + 100) (H := O + 102) (X := O + 346) hW.1.y hW.1.w hW.1.p hW.1.s hW.2.1.p hW.2.1.s hQ hV hW.2.1.l) (by omega)).mono (fun o9 g9q M9q p9q => ?_)
  obtain ⟨rfl, eg9q, em9q⟩ := p9q
  rw [eg9q, em9q]
  refine kt_v (pc' := 85) rfl <| ok_aloadn (pc' := 86) i213_85 rfl rfl <| ok_getfr (r := 110) (pc' := 89) i213_86 o213 gr13_164 (hY.gr.ky) (hY.gr.r7) rfl <| ok_iloadn (pc' := 90) i213_89 rfl rfl <| ok_iaload (v := (s 8)) (pc' := 91) i213_90 (hY.gr.ka) (by decide) (hY.gr.la) (by decide) ((Yd.acz hY (i := 2) (z := 8) (by omega) (by omega) (by omega))) rfl <| ok_ceqs (pc1 := 96) (pc2 := 94) i213_91 rfl rfl <| ok_iinc (pc' := 99) (v := 3) (ls' := [aR O, aR 101, aI 3, aU, aU, aU]) i213_96 rfl rfl rfl rfl <| ok_goto (pc' := 74) i213_99 rfl <| ?_
  refine ok_iloadn (pc' := 75) i213_74 rfl rfl <| ok_bipush (v := 8) (pc' := 77) i213_75 rfl rfl <| ok_kc0 (pc1 := 102) (pc2 := 80) i213_77 (by decide) rfl rfl <| ok_aloadn (pc' := 81) i213_80 rfl rfl <| ok_iloadn (pc' := 82) i213_81 rfl rfl <| ?_
  refine ok_cc i213_82 rfl (cl_v o213 m13_71 na135 rfl rfl (bt rfl) (bt rfl) rfl (by rw [(ShYard_k0 hW.1.y), o135])) ln135 (pd135 (aR O) (aI 3)) <| (Ok.deep (y135_3 (Y := O) (P := O + 38) (A := O + 49) (V := O + 73) (T := O + 74) (K := O + 100) (H := O + 102) (X := O + 346) hW.1.y hW.1.w hW.1.p hW.1.s hW.2.1.p hW.2.1.s hQ hV hW.2.1.l) (by omega)).mono (fun o9 g10q M10q p10q => ?_)
  obtain ⟨rfl, eg10q, em10q⟩ := p10q
  rw [eg10q, em10q]
  refine kt_v (pc' := 85) rfl <| ok_aloadn (pc' := 86) i213_85 rfl rfl <| ok_getfr (r := 110) (pc' := 89) i213_86 o213 gr13_164 (hY.gr.ky) (hY.gr.r7) rfl <| ok_iloadn (pc' := 90) i213_89 rfl rfl <| ok_iaload (v := (s 9)) (pc' := 91) i213_90 (hY.gr.ka) (by decide) (hY.gr.la) (by decide) ((Yd.acz hY (i := 3) (z := 9) (by omega) (by omega) (by omega))) rfl <| ok_ceqs (pc1 := 96) (pc2 := 94) i213_91 rfl rfl <| ok_iinc (pc' := 99) (v := 4) (ls' := [aR O, aR 101, aI 4, aU, aU, aU]) i213_96 rfl rfl rfl rfl <| ok_goto (pc' := 74) i213_99 rfl <| ?_
  refine ok_iloadn (pc' := 75) i213_74 rfl rfl <| ok_bipush (v := 8) (pc' := 77) i213_75 rfl rfl <| ok_kc0 (pc1 := 102) (pc2 := 80) i213_77 (by decide) rfl rfl <| ok_aloadn (pc' := 81) i213_80 rfl rfl <| ok_iloadn (pc' := 82) i213_81 rfl rfl <| ?_
  refine ok_cc i213_82 rfl (cl_v o213 m13_71 na135 rfl rfl (bt rfl) (bt rfl) rfl (by rw [(ShYard_k0 hW.1.y), o135])) ln135 (pd135 (aR O) (aI 4)) <| (Ok.deep (y135_4 (Y := O) (P := O + 38) (A := O + 49) (V := O + 73) (T := O + 74) (K := O + 100) (H := O + 102) (X := O + 346) hW.1.y hW.1.w hW.1.p hW.1.s hW.2.1.p hW.2.1.s hQ hV hW.2.1.l) (by omega)).mono (fun o9 g11q M11q p11q => ?_)
  obtain ⟨rfl, eg11q, em11q⟩ := p11q
  rw [eg11q, em11q]
  refine kt_v (pc' := 85) rfl <| ok_aloadn (pc' := 86) i213_85 rfl rfl <| ok_getfr (r := 110) (pc' := 89) i213_86 o213 gr13_164 (hY.gr.ky) (hY.gr.r7) rfl <| ok_iloadn (pc' := 90) i213_89 rfl rfl <| ok_iaload (v := (s 10)) (pc' := 91) i213_90 (hY.gr.ka) (by decide) (hY.gr.la) (by decide) ((Yd.acz hY (i := 4) (z := 10) (by omega) (by omega) (by omega))) rfl <| ok_ceqs (pc1 := 96) (pc2 := 94) i213_91 rfl rfl <| ok_iinc (pc' := 99) (v := 5) (ls' := [aR O, aR 101, aI 5, aU, aU, aU]) i213_96 rfl rfl rfl rfl <| ok_goto (pc' := 74) i213_99 rfl <| ?_
  refine ok_iloadn (pc' := 75) i213_74 rfl rfl <| ok_bipush (v := 8) (pc' := 77) i213_75 rfl rfl <| ok_kc0 (pc1 := 102) (pc2 := 80) i213_77 (by decide) rfl rfl <| ok_aloadn (pc' := 81) i213_80 rfl rfl <| ok_iloadn (pc' := 82) i213_81 rfl rfl <| ?_
  refine ok_cc i213_82 rfl (cl_v o213 m13_71 na135 rfl rfl (bt rfl) (bt rfl) rfl (by rw [(ShYard_k0 hW.1.y), o135])) ln135 (pd135 (aR O) (aI 5)) <| (Ok.deep (y135_5 (Y := O) (P := O + 38) (A := O + 49) (V := O + 73) (T := O + 74) (K := O + 100) (H := O + 102) (X := O + 346) hW.1.y hW.1.w hW.1.p hW.1.s hW.2.1.p hW.2.1.s hQ hV hW.2.1.l) (by omega)).mono (fun o9 g12q M12q p12q => ?_)
  obtain ⟨rfl, eg12q, em12q⟩ := p12q
  rw [eg12q, em12q]
  refine kt_v (pc' := 85) rfl <| ok_aloadn (pc' := 86) i213_85 rfl rfl <| ok_getfr (r := 110) (pc' := 89) i213_86 o213 gr13_164 (hY.gr.ky) (hY.gr.r7) rfl <| ok_iloadn (pc' := 90) i213_89 rfl rfl <| ok_iaload (v := (s 11)) (pc' := 91) i213_90 (hY.gr.ka) (by decide) (hY.gr.la) (by decide) ((Yd.acz hY (i := 5) (z := 11) (by omega) (by omega) (by omega))) rfl <| ok_ceqs (pc1 := 96) (pc2 := 94) i213_91 rfl rfl <| ok_iinc (pc' := 99) (v := 6) (ls' := [aR O, aR 101, aI 6, aU, aU, aU]) i213_96 rfl rfl rfl rfl <| ok_goto (pc' := 74) i213_99 rfl <| ?_
  refine ok_iloadn (pc' := 75) i213_74 rfl rfl <| ok_bipush (v := 8) (pc' := 77) i213_75 rfl rfl <| ok_kc0 (pc1 := 102) (pc2 := 80) i213_77 (by decide) rfl rfl <| ok_aloadn (pc' := 81) i213_80 rfl rfl <| ok_iloadn (pc' := 82) i213_81 rfl rfl <| ?_
  refine ok_cc i213_82 rfl (cl_v o213 m13_71 na135 rfl rfl (bt rfl) (bt rfl) rfl (by rw [(ShYard_k0 hW.1.y), o135])) ln135 (pd135 (aR O) (aI 6)) <| (Ok.deep (y135_6 (Y := O) (P := O + 38) (A := O + 49) (V := O + 73) (T := O + 74) (K := O + 100) (H := O + 102) (X := O + 346) hW.1.y hW.1.w hW.1.p hW.1.s hW.2.1.p hW.2.1.s hQ hV hW.2.1.l) (by omega)).mono (fun o9 g13q M13q p13q => ?_)
  obtain ⟨rfl, eg13q, em13q⟩ := p13q
  rw [eg13q, em13q]
  refine kt_v (pc' := 85) rfl <| ok_aloadn (pc' := 86) i213_85 rfl rfl <| ok_getfr (r := 110) (pc' := 89) i213_86 o213 gr13_164 (hY.gr.ky) (hY.gr.r7) rfl <| ok_iloadn (pc' := 90) i213_89 rfl rfl <| ok_iaload (v := (s 12)) (pc' := 91) i213_90 (hY.gr.ka) (by decide) (hY.gr.la) (by decide) ((Yd.acz hY (i := 6) (z := 12) (by omega) (by omega) (by omega))) rfl <| ok_ceqs (pc1 := 96) (pc2 := 94) i213_91 rfl rfl <| ok_iinc (pc' := 99) (v := 7) (ls' := [aR O, aR 101, aI 7, aU, aU, aU]) i213_96 rfl rfl rfl rfl <| ok_goto (pc' := 74) i213_99 rfl <| ?_
  refine ok_iloadn (pc' := 75) i213_74 rfl rfl <| ok_bipush (v := 8) (pc' := 77) i213_75 rfl rfl <| ok_kc0 (pc1 := 102) (pc2 := 80) i213_77 (by decide) rfl rfl <| ok_aloadn (pc' := 81) i213_80 rfl rfl <| ok_iloadn (pc' := 82) i213_81 rfl rfl <| ?_
  refine ok_cc i213_82 rfl (cl_v o213 m13_71 na135 rfl rfl (bt rfl) (bt rfl) rfl (by rw [(ShYard_k0 hW.1.y), o135])) ln135 (pd135 (aR O) (aI 7)) <| (Ok.deep (y135_7 (Y := O) (P := O + 38) (A := O + 49) (V := O + 73) (T := O + 74) (K := O + 100) (H := O + 102) (X := O + 346) hW.1.y hW.1.w hW.1.p hW.1.s hW.2.1.p hW.2.1.s hQ hV hW.2.1.l) (by omega)).mono (fun o9 g14q M14q p14q => ?_)
  obtain ⟨rfl, eg14q, em14q⟩ := p14q
  rw [eg14q, em14q]
  refine kt_v (pc' := 85) rfl <| ok_aloadn (pc' := 86) i213_85 rfl rfl <| ok_getfr (r := 110) (pc' := 89) i213_86 o213 gr13_164 (hY.gr.ky) (hY.gr.r7) rfl <| ok_iloadn (pc' := 90) i213_89 rfl rfl <| ok_iaload (v := (s 13)) (pc' := 91) i213_90 (hY.gr.ka) (by decide) (hY.gr.la) (by decide) ((Yd.acz hY (i := 7) (z := 13) (by omega) (by omega) (by omega))) rfl <| ok_ceqs (pc1 := 96) (pc2 := 94) i213_91 rfl rfl <| ok_iinc (pc' := 99) (v := 8) (ls' := [aR O, aR 101, aI 8, aU, aU, aU]) i213_96 rfl rfl rfl rfl <| ok_goto (pc' := 74) i213_99 rfl <| ?_
  refine ok_iloadn (pc' := 75) i213_74 rfl rfl <| ok_bipush (v := 8) (pc' := 77) i213_75 rfl rfl <| ok_kc1 (pc1 := 102) (pc2 := 80) i213_77 (by decide) rfl rfl <| ok_iconst (pc' := 103) i213_102 rfl <| ok_istoren (pc' := 104) (ls' := [aR O, aR 101, aI 0, aU, aU, aU]) i213_103 (bt rfl) rfl rfl <| ?_
  exact K
