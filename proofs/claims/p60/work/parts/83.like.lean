/-! ALIKE (by program, wip/p60/gen) -/
theorem o213 : am_oc 213 = 13 := by decide +kernel
theorem gi13_141 : am_gfi 13 141 17 13 = true := by decide +kernel
theorem gi13_146 : am_gfi 13 146 17 14 = true := by decide +kernel
theorem gi13_149 : am_gfi 13 149 17 15 = true := by decide +kernel
theorem gi13_152 : am_gfi 13 152 17 10 = true := by decide +kernel
theorem gi13_155 : am_gfi 13 155 17 11 = true := by decide +kernel
theorem m13_158 : am_mlk 13 158 0 94 = true := by decide +kernel
theorem na94 : am_na 94 = 0 := by decide +kernel
theorem nl94 : am_nL 94 = 1 := by decide +kernel
theorem pd94 : ∀ a0 : AV, am_pad 94 [a0] = [a0] := by intros; unfold am_pad; rw [nl94]; rfl
theorem ln94 : 1 ≤ am_nL 94 := by rw [nl94]; decide
theorem gi13_161 : am_gfi 13 161 17 12 = true := by decide +kernel
theorem gr13_164 : am_gfr 13 164 17 7 = true := by decide +kernel
theorem gr13_168 : am_gfr 13 168 17 4 = true := by decide +kernel
theorem gi13_172 : am_gfi 13 172 16 1 = true := by decide +kernel
theorem gi13_176 : am_gfi 13 176 16 2 = true := by decide +kernel
theorem gi13_178 : am_gfi 13 178 16 3 = true := by decide +kernel
theorem gi13_181 : am_gfi 13 181 16 4 = true := by decide +kernel
theorem gi13_184 : am_gfi 13 184 16 5 = true := by decide +kernel
theorem rt213 : am_rt 213 = some .boolean := by decide +kernel
theorem m13_216 : am_mlk 13 216 0 114 = true := by decide +kernel
theorem na114 : am_na 114 = 1 := by decide +kernel
theorem nl114 : am_nL 114 = 2 := by decide +kernel
theorem pd114 : ∀ a0 a1 : AV, am_pad 114 [a0, a1] = [a0, a1] := by intros; unfold am_pad; rw [nl114]; rfl
theorem ln114 : 2 ≤ am_nL 114 := by rw [nl114]; decide
theorem gr13_219 : am_gfr 13 219 17 6 = true := by decide +kernel
theorem gr13_188 : am_gfr 13 188 17 5 = true := by decide +kernel
theorem gi13_192 : am_gfi 13 192 15 1 = true := by decide +kernel
theorem gi13_195 : am_gfi 13 195 15 2 = true := by decide +kernel
theorem gi13_198 : am_gfi 13 198 15 3 = true := by decide +kernel
theorem gi13_201 : am_gfi 13 201 15 4 = true := by decide +kernel
theorem gi13_204 : am_gfi 13 204 15 5 = true := by decide +kernel
theorem gi13_207 : am_gfi 13 207 15 6 = true := by decide +kernel
theorem gi13_210 : am_gfi 13 210 15 7 = true := by decide +kernel
theorem gi13_213 : am_gfi 13 213 15 8 = true := by decide +kernel
theorem w213_0 {g : AG} {M : AM} {O : Nat} {A : YA} {s q : Int → Int} {b : Int} {d : Nat} {Q : AO → AG → AM → Prop} (hY : Yd g M O A s q) (hW : CW g M O b q s) (K : Ok (d + 12) 213 74 [aR O, aR 101, aI 0, aU, aU, aU] [] g M Q) : Ok (d + 12) 213 0 [aR O, aR 101, aU, aU, aU, aU] [] g M Q := by
  have hV := hW.2.1.v
  have hQ := V_q hV
  have y3 := V_3 hV
  have y4 := V_4 hV
  have y5 := V_5 hV
  have yq0 := Q_0 hQ
  have yq1 := Q_1 hQ
  refine ok_aloadn (pc' := 1) i213_0 rfl rfl <| ?_
  refine ok_cc i213_1 rfl (cl_v o213 m13_126 na111 rfl rfl (bt rfl) (bt rfl) rfl (by rw [(ShYard_k0 hW.1.y), o111])) ln111 (pd111 (aR O)) <| (Ok.deep (y111 (Y := O) (P := O + 38) (A := O + 49) (V := O + 73) (T := O + 74) (K := O + 100) (H := O + 102) (X := O + 346) hW.1.y hW.1.w hW.1.p hW.1.s hW.2.1.p hW.2.1.s hQ hV hW.2.1.l) (by omega)).mono (fun o9 g1q M1q p1q => ?_)
  obtain ⟨rfl, eg1q, em1q⟩ := p1q
  rw [eg1q, em1q]
  refine kt_v (pc' := 4) rfl <| ok_aloadn (pc' := 5) i213_4 rfl rfl <| ?_
  have z1 : 0 ≤ s 0 ∧ s 0 ≤ 1000000 := V_0 hV
  refine ok_getfi (v := (s 0)) (pc' := 8) i213_5 o213 gi13_141 (hY.gr.ky) ((Yd.n0 hY)) rfl <| ok_cnes (pc1 := 70) (pc2 := 11) i213_8 rfl rfl <| ok_aloadn (pc' := 12) i213_11 rfl rfl <| ok_iconst (pc' := 13) i213_12 rfl <| ?_
  refine ok_cc i213_13 rfl (cl_v o213 m13_123 na110 rfl rfl (bt rfl) (bt rfl) rfl (by rw [(ShYard_k0 hW.1.y), o110])) ln110 (pd110 (aR O) (aI 0)) <| (Ok.deep (y110_0 (Y := O) (P := O + 38) (A := O + 49) (V := O + 73) (T := O + 74) (K := O + 100) (H := O + 102) (X := O + 346) hW.1.y hW.1.w hW.1.p hW.1.s hW.2.1.p hW.2.1.s hQ hV hW.2.1.l) (by omega)).mono (fun o9 g2q M2q p2q => ?_)
  obtain ⟨rfl, eg2q, em2q⟩ := p2q
  rw [eg2q, em2q]
  refine kt_v (pc' := 16) rfl <| ok_aloadn (pc' := 17) i213_16 rfl rfl <| ?_
  have z2 : 0 ≤ s 1 ∧ s 1 ≤ 9 := V_1 hV
  refine ok_getfi (v := (s 1)) (pc' := 20) i213_17 o213 gi13_146 (hY.gr.ky) ((Yd.n1 hY)) rfl <| ok_cnes (pc1 := 70) (pc2 := 23) i213_20 rfl rfl <| ok_aloadn (pc' := 24) i213_23 rfl rfl <| ok_iconst (pc' := 25) i213_24 rfl <| ?_
  refine ok_cc i213_25 rfl (cl_v o213 m13_123 na110 rfl rfl (bt rfl) (bt rfl) rfl (by rw [(ShYard_k0 hW.1.y), o110])) ln110 (pd110 (aR O) (aI 1)) <| (Ok.deep (y110_1 (Y := O) (P := O + 38) (A := O + 49) (V := O + 73) (T := O + 74) (K := O + 100) (H := O + 102) (X := O + 346) hW.1.y hW.1.w hW.1.p hW.1.s hW.2.1.p hW.2.1.s hQ hV hW.2.1.l) (by omega)).mono (fun o9 g3q M3q p3q => ?_)
  obtain ⟨rfl, eg3q, em3q⟩ := p3q
  rw [eg3q, em3q]
  refine kt_v (pc' := 28) rfl <| ok_aloadn (pc' := 29) i213_28 rfl rfl <| ?_
  have z3 : 1 ≤ s 2 ∧ s 2 ≤ 200 := V_2 hV
  refine ok_getfi (v := (s 2)) (pc' := 32) i213_29 o213 gi13_149 (hY.gr.ky) ((Yd.n2 hY)) rfl <| ok_cnes (pc1 := 70) (pc2 := 35) i213_32 rfl rfl <| ok_aloadn (pc' := 36) i213_35 rfl rfl <| ok_iconst (pc' := 37) i213_36 rfl <| ?_
  refine ok_cc i213_37 rfl (cl_v o213 m13_33 na98 rfl rfl (bt rfl) (bt rfl) rfl (by rw [(ShYard_k0 hW.1.y), o98])) ln98 (pd98 (aR O) (aI 1)) <| (Ok.deep (y98_1 (Y := O) (P := O + 38) (A := O + 49) (V := O + 73) (T := O + 74) (K := O + 100) (H := O + 102) (X := O + 346) hW.1.y hW.1.w hW.1.p hW.1.s hW.2.1.p hW.2.1.s hQ hV hW.2.1.l) (by omega)).mono (fun o9 g4q M4q p4q => ?_)
  obtain ⟨rfl, eg4q, em4q⟩ := p4q
  rw [eg4q, em4q]
  refine kt_v (pc' := 40) rfl <| ok_aloadn (pc' := 41) i213_40 rfl rfl <| ok_getfi (v := (s 3)) (pc' := 44) i213_41 o213 gi13_152 (hY.gr.ky) ((Yd.n3 hY)) rfl <| ok_cnes (pc1 := 70) (pc2 := 47) i213_44 rfl rfl <| ok_aloadn (pc' := 48) i213_47 rfl rfl <| ok_iconst (pc' := 49) i213_48 rfl <| ?_
  refine ok_cc i213_49 rfl (cl_v o213 m13_33 na98 rfl rfl (bt rfl) (bt rfl) rfl (by rw [(ShYard_k0 hW.1.y), o98])) ln98 (pd98 (aR O) (aI 2)) <| (Ok.deep (y98_2 (Y := O) (P := O + 38) (A := O + 49) (V := O + 73) (T := O + 74) (K := O + 100) (H := O + 102) (X := O + 346) hW.1.y hW.1.w hW.1.p hW.1.s hW.2.1.p hW.2.1.s hQ hV hW.2.1.l) (by omega)).mono (fun o9 g5q M5q p5q => ?_)
  obtain ⟨rfl, eg5q, em5q⟩ := p5q
  rw [eg5q, em5q]
  refine kt_v (pc' := 52) rfl <| ok_aloadn (pc' := 53) i213_52 rfl rfl <| ok_getfi (v := (s 4)) (pc' := 56) i213_53 o213 gi13_155 (hY.gr.ky) ((Yd.n4 hY)) rfl <| ok_cnes (pc1 := 70) (pc2 := 59) i213_56 rfl rfl <| ok_aloadn (pc' := 60) i213_59 rfl rfl <| ?_
  refine ok_cc i213_60 rfl (cl_v o213 m13_158 na94 rfl rfl (bt rfl) (bt rfl) rfl (by rw [(ShYard_k0 hW.1.y), o94])) ln94 (pd94 (aR O)) <| (Ok.deep (y94 (Y := O) (P := O + 38) (A := O + 49) (V := O + 73) (T := O + 74) (K := O + 100) (H := O + 102) (X := O + 346) hW.1.y hW.1.w hW.1.p hW.1.s hW.2.1.p hW.2.1.s hQ hV hW.2.1.l) (by omega)).mono (fun o9 g6q M6q p6q => ?_)
  obtain ⟨rfl, eg6q, em6q⟩ := p6q
  rw [eg6q, em6q]
  refine kt_v (pc' := 63) rfl <| ok_aloadn (pc' := 64) i213_63 rfl rfl <| ok_getfi (v := (s 5)) (pc' := 67) i213_64 o213 gi13_161 (hY.gr.ky) ((Yd.n5 hY)) rfl <| ok_ceqs (pc1 := 72) (pc2 := 70) i213_67 rfl rfl <| ok_iconst (pc' := 73) i213_72 rfl <| ok_istoren (pc' := 74) (ls' := [aR O, aR 101, aI 0, aU, aU, aU]) i213_73 (bt rfl) rfl rfl <| ?_
  exact K
theorem w213_74 {g : AG} {M : AM} {O : Nat} {A : YA} {s q : Int → Int} {b : Int} {d : Nat} {Q : AO → AG → AM → Prop} (hY : Yd g M O A s q) (hW : CW g M O b q s) (K : Ok (d + 12) 213 104 [aR O, aR 101, aI 0, aU, aU, aU] [] g M Q) : Ok (d + 12) 213 74 [aR O, aR 101, aI 0, aU, aU, aU] [] g M Q := by
  have hV := hW.2.1.v
  have hQ := V_q hV
  have y3 := V_3 hV
  have y4 := V_4 hV
  have y5 := V_5 hV
  have yq0 := Q_0 hQ
  have yq1 := Q_1 hQ
  refine ok_iloadn (pc' := 75) i213_74 rfl rfl <| ok_bipush (v := 8) (pc' := 77) i213_75 rfl rfl <| ok_kc0 (pc1 := 102) (pc2 := 80) i213_77 (by decide) rfl rfl <| ok_aloadn (pc' := 81) i213_80 rfl rfl <| ok_iloadn (pc' := 82) i213_81 rfl rfl <| ?_
  refine ok_cc i213_82 rfl (cl_v o213 m13_71 na135 rfl rfl (bt rfl) (bt rfl) rfl (by rw [(ShYard_k0 hW.1.y), o135])) ln135 (pd135 (aR O) (aI 0)) <| (Ok.deep (y135_0 (Y := O) (P := O + 38) (A := O + 49) (V := O + 73) (T := O + 74) (K := O + 100) (H := O + 102) (X := O + 346) hW.1.y hW.1.w hW.1.p hW.1.s hW.2.1.p hW.2.1.s hQ hV hW.2.1.l) (by omega)).mono (fun o9 g7q M7q p7q => ?_)
  obtain ⟨rfl, eg7q, em7q⟩ := p7q
  rw [eg7q, em7q]
  refine kt_v (pc' := 85) rfl <| ok_aloadn (pc' := 86) i213_85 rfl rfl <| ok_getfr (r := 110) (pc' := 89) i213_86 o213 gr13_164 (hY.gr.ky) (hY.gr.r7) rfl <| ok_iloadn (pc' := 90) i213_89 rfl rfl <| ok_iaload (v := (s 6)) (pc' := 91) i213_90 (hY.gr.ka) (by decide) (hY.gr.la) (by decide) ((Yd.acz hY (i := 0) (z := 6) (by omega) (by omega) (by omega))) rfl <| ok_ceqs (pc1 := 96) (pc2 := 94) i213_91 rfl rfl <| ok_iinc (pc' := 99) (v := 1) (ls' := [aR O, aR 101, aI 1, aU, aU, aU]) i213_96 rfl rfl rfl rfl <| ok_goto (pc' := 74) i213_99 rfl <| ?_
  refine ok_iloadn (pc' := 75) i213_74 rfl rfl <| ok_bipush (v := 8) (pc' := 77) i213_75 rfl rfl <| ok_kc0 (pc1 := 102) (pc2 := 80) i213_77 (by decide) rfl rfl <| ok_aloadn (pc' := 81) i213_80 rfl rfl <| ok_iloadn (pc' := 82) i213_81 rfl rfl <| ?_
  refine ok_cc i213_82 rfl (cl_v o213 m13_71 na135 rfl rfl (bt rfl) (bt rfl) rfl (by rw [(ShYard_k0 hW.1.y), o135])) ln135 (pd135 (aR O) (aI 1)) <| (Ok.deep (y135_1 (Y := O) (P := O + 38) (A := O + 49) (V := O + 73) (T := O + 74) (K := O + 100) (H := O + 102) (X := O + 346) hW.1.y hW.1.w hW.1.p hW.1.s hW.2.1.p hW.2.1.s hQ hV hW.2.1.l) (by omega)).mono (fun o9 g8q M8q p8q => ?_)
  obtain ⟨rfl, eg8q, em8q⟩ := p8q
  rw [eg8q, em8q]
  refine kt_v (pc' := 85) rfl <| ok_aloadn (pc' := 86) i213_85 rfl rfl <| ok_getfr (r := 110) (pc' := 89) i213_86 o213 gr13_164 (hY.gr.ky) (hY.gr.r7) rfl <| ok_iloadn (pc' := 90) i213_89 rfl rfl <| ok_iaload (v := (s 7)) (pc' := 91) i213_90 (hY.gr.ka) (by decide) (hY.gr.la) (by decide) ((Yd.acz hY (i := 1) (z := 7) (by omega) (by omega) (by omega))) rfl <| ok_ceqs (pc1 := 96) (pc2 := 94) i213_91 rfl rfl <| ok_iinc (pc' := 99) (v := 2) (ls' := [aR O, aR 101, aI 2, aU, aU, aU]) i213_96 rfl rfl rfl rfl <| ok_goto (pc' := 74) i213_99 rfl <| ?_
  refine ok_iloadn (pc' := 75) i213_74 rfl rfl <| ok_bipush (v := 8) (pc' := 77) i213_75 rfl rfl <| ok_kc0 (pc1 := 102) (pc2 := 80) i213_77 (by decide) rfl rfl <| ok_aloadn (pc' := 81) i213_80 rfl rfl <| ok_iloadn (pc' := 82) i213_81 rfl rfl <| ?_
  refine ok_cc i213_82 rfl (cl_v o213 m13_71 na135 rfl rfl (bt rfl) (bt rfl) rfl (by rw [(ShYard_k0 hW.1.y), o135])) ln135 (pd135 (aR O) (aI 2)) <| (Ok.deep (y135_2 (Y := O) (P := O + 38) (A := O + 49) (V := O + 73) (T := O + 74) (K := O + 100) (H := O + 102) (X := O + 346) hW.1.y hW.1.w hW.1.p hW.1.s hW.2.1.p hW.2.1.s hQ hV hW.2.1.l) (by omega)).mono (fun o9 g9q M9q p9q => ?_)
  obtain ⟨rfl, eg9q, em9q⟩ := p9q
  rw [eg9q, em9q]
  refine kt_v (pc' := 85) rfl <| ok_aloadn (pc' := 86) i213_85 rfl rfl <| ok_getfr (r := 110) (pc' := 89) i213_86 o213 gr13_164 (hY.gr.ky) (hY.gr.r7) rfl <| ok_iloadn (pc' := 90) i213_89 rfl rfl <| ok_iaload (v := (s 8)) (pc' := 91) i213_90 (hY.gr.ka) (by decide) (hY.gr.la) (by decide) ((Yd.acz hY (i := 2) (z := 8) (by omega) (by omega) (by omega))) rfl <| ok_ceqs (pc1 := 96) (pc2 := 94) i213_91 rfl rfl <| ok_iinc (pc' := 99) (v := 3) (ls' := [aR O, aR 101, aI 3, aU, aU, aU]) i213_96 rfl rfl rfl rfl <| ok_goto (pc' := 74) i213_99 rfl <| ?_
  refine ok_iloadn (pc' := 75) i213_74 rfl rfl <| ok_bipush (v := 8) (pc' := 77) i213_75 rfl rfl <| ok_kc0 (pc1 := 102) (pc2 := 80) i213_77 (by decide) rfl rfl <| ok_aloadn (pc' := 81) i213_80 rfl rfl <| ok_iloadn (pc' := 82) i213_81 rfl rfl <| ?_
  refine ok_cc i213_82 rfl (cl_v o213 m13_71 na135 rfl rfl (bt rfl) (bt rfl) rfl (by rw [(ShYard_k0 hW.1.y), o135])) ln135 (pd135 (aR O) (aI 3)) <| (Ok.deep (y135_3 (Y := O) (P := O + 38) (A := O + 49) (V := O + 73) (T := O + 74) (K := O + 100) (H := O + 102) (X := O + 346) hW.1.y hW.1.w hW.1.p hW.1.s hW.2.1.p hW.2.1.s hQ hV hW.2.1.l) (by omega)).mono (fun o9 g10q M10q p10q => ?_)
  obtain ⟨rfl, eg10q, em10q⟩ := p10q
  rw [eg10q, em10q]
  refine kt_v (pc' := 85) rfl <| ok_aloadn (pc' := 86) i213_85 rfl rfl <| ok_getfr (r := 110) (pc' := 89) i213_86 o213 gr13_164 (hY.gr.ky) (hY.gr.r7) rfl <| ok_iloadn (pc' := 90) i213_89 rfl rfl <| ok_iaload (v := (s 9)) (pc' := 91) i213_90 (hY.gr.ka) (by decide) (hY.gr.la) (by decide) ((Yd.acz hY (i := 3) (z := 9) (by omega) (by omega) (by omega))) rfl <| ok_ceqs (pc1 := 96) (pc2 := 94) i213_91 rfl rfl <| ok_iinc (pc' := 99) (v := 4) (ls' := [aR O, aR 101, aI 4, aU, aU, aU]) i213_96 rfl rfl rfl rfl <| ok_goto (pc' := 74) i213_99 rfl <| ?_
  refine ok_iloadn (pc' := 75) i213_74 rfl rfl <| ok_bipush (v := 8) (pc' := 77) i213_75 rfl rfl <| ok_kc0 (pc1 := 102) (pc2 := 80) i213_77 (by decide) rfl rfl <| ok_aloadn (pc' := 81) i213_80 rfl rfl <| ok_iloadn (pc' := 82) i213_81 rfl rfl <| ?_
  refine ok_cc i213_82 rfl (cl_v o213 m13_71 na135 rfl rfl (bt rfl) (bt rfl) rfl (by rw [(ShYard_k0 hW.1.y), o135])) ln135 (pd135 (aR O) (aI 4)) <| (Ok.deep (y135_4 (Y := O) (P := O + 38) (A := O + 49) (V := O + 73) (T := O + 74) (K := O + 100) (H := O + 102) (X := O + 346) hW.1.y hW.1.w hW.1.p hW.1.s hW.2.1.p hW.2.1.s hQ hV hW.2.1.l) (by omega)).mono (fun o9 g11q M11q p11q => ?_)
  obtain ⟨rfl, eg11q, em11q⟩ := p11q
  rw [eg11q, em11q]
  refine kt_v (pc' := 85) rfl <| ok_aloadn (pc' := 86) i213_85 rfl rfl <| ok_getfr (r := 110) (pc' := 89) i213_86 o213 gr13_164 (hY.gr.ky) (hY.gr.r7) rfl <| ok_iloadn (pc' := 90) i213_89 rfl rfl <| ok_iaload (v := (s 10)) (pc' := 91) i213_90 (hY.gr.ka) (by decide) (hY.gr.la) (by decide) ((Yd.acz hY (i := 4) (z := 10) (by omega) (by omega) (by omega))) rfl <| ok_ceqs (pc1 := 96) (pc2 := 94) i213_91 rfl rfl <| ok_iinc (pc' := 99) (v := 5) (ls' := [aR O, aR 101, aI 5, aU, aU, aU]) i213_96 rfl rfl rfl rfl <| ok_goto (pc' := 74) i213_99 rfl <| ?_
  refine ok_iloadn (pc' := 75) i213_74 rfl rfl <| ok_bipush (v := 8) (pc' := 77) i213_75 rfl rfl <| ok_kc0 (pc1 := 102) (pc2 := 80) i213_77 (by decide) rfl rfl <| ok_aloadn (pc' := 81) i213_80 rfl rfl <| ok_iloadn (pc' := 82) i213_81 rfl rfl <| ?_
  refine ok_cc i213_82 rfl (cl_v o213 m13_71 na135 rfl rfl (bt rfl) (bt rfl) rfl (by rw [(ShYard_k0 hW.1.y), o135])) ln135 (pd135 (aR O) (aI 5)) <| (Ok.deep (y135_5 (Y := O) (P := O + 38) (A := O + 49) (V := O + 73) (T := O + 74) (K := O + 100) (H := O + 102) (X := O + 346) hW.1.y hW.1.w hW.1.p hW.1.s hW.2.1.p hW.2.1.s hQ hV hW.2.1.l) (by omega)).mono (fun o9 g12q M12q p12q => ?_)
  obtain ⟨rfl, eg12q, em12q⟩ := p12q
  rw [eg12q, em12q]
  refine kt_v (pc' := 85) rfl <| ok_aloadn (pc' := 86) i213_85 rfl rfl <| ok_getfr (r := 110) (pc' := 89) i213_86 o213 gr13_164 (hY.gr.ky) (hY.gr.r7) rfl <| ok_iloadn (pc' := 90) i213_89 rfl rfl <| ok_iaload (v := (s 11)) (pc' := 91) i213_90 (hY.gr.ka) (by decide) (hY.gr.la) (by decide) ((Yd.acz hY (i := 5) (z := 11) (by omega) (by omega) (by omega))) rfl <| ok_ceqs (pc1 := 96) (pc2 := 94) i213_91 rfl rfl <| ok_iinc (pc' := 99) (v := 6) (ls' := [aR O, aR 101, aI 6, aU, aU, aU]) i213_96 rfl rfl rfl rfl <| ok_goto (pc' := 74) i213_99 rfl <| ?_
  refine ok_iloadn (pc' := 75) i213_74 rfl rfl <| ok_bipush (v := 8) (pc' := 77) i213_75 rfl rfl <| ok_kc0 (pc1 := 102) (pc2 := 80) i213_77 (by decide) rfl rfl <| ok_aloadn (pc' := 81) i213_80 rfl rfl <| ok_iloadn (pc' := 82) i213_81 rfl rfl <| ?_
  refine ok_cc i213_82 rfl (cl_v o213 m13_71 na135 rfl rfl (bt rfl) (bt rfl) rfl (by rw [(ShYard_k0 hW.1.y), o135])) ln135 (pd135 (aR O) (aI 6)) <| (Ok.deep (y135_6 (Y := O) (P := O + 38) (A := O + 49) (V := O + 73) (T := O + 74) (K := O + 100) (H := O + 102) (X := O + 346) hW.1.y hW.1.w hW.1.p hW.1.s hW.2.1.p hW.2.1.s hQ hV hW.2.1.l) (by omega)).mono (fun o9 g13q M13q p13q => ?_)
  obtain ⟨rfl, eg13q, em13q⟩ := p13q
  rw [eg13q, em13q]
  refine kt_v (pc' := 85) rfl <| ok_aloadn (pc' := 86) i213_85 rfl rfl <| ok_getfr (r := 110) (pc' := 89) i213_86 o213 gr13_164 (hY.gr.ky) (hY.gr.r7) rfl <| ok_iloadn (pc' := 90) i213_89 rfl rfl <| ok_iaload (v := (s 12)) (pc' := 91) i213_90 (hY.gr.ka) (by decide) (hY.gr.la) (by decide) ((Yd.acz hY (i := 6) (z := 12) (by omega) (by omega) (by omega))) rfl <| ok_ceqs (pc1 := 96) (pc2 := 94) i213_91 rfl rfl <| ok_iinc (pc' := 99) (v := 7) (ls' := [aR O, aR 101, aI 7, aU, aU, aU]) i213_96 rfl rfl rfl rfl <| ok_goto (pc' := 74) i213_99 rfl <| ?_
  refine ok_iloadn (pc' := 75) i213_74 rfl rfl <| ok_bipush (v := 8) (pc' := 77) i213_75 rfl rfl <| ok_kc0 (pc1 := 102) (pc2 := 80) i213_77 (by decide) rfl rfl <| ok_aloadn (pc' := 81) i213_80 rfl rfl <| ok_iloadn (pc' := 82) i213_81 rfl rfl <| ?_
  refine ok_cc i213_82 rfl (cl_v o213 m13_71 na135 rfl rfl (bt rfl) (bt rfl) rfl (by rw [(ShYard_k0 hW.1.y), o135])) ln135 (pd135 (aR O) (aI 7)) <| (Ok.deep (y135_7 (Y := O) (P := O + 38) (A := O + 49) (V := O + 73) (T := O + 74) (K := O + 100) (H := O + 102) (X := O + 346) hW.1.y hW.1.w hW.1.p hW.1.s hW.2.1.p hW.2.1.s hQ hV hW.2.1.l) (by omega)).mono (fun o9 g14q M14q p14q => ?_)
  obtain ⟨rfl, eg14q, em14q⟩ := p14q
  rw [eg14q, em14q]
  refine kt_v (pc' := 85) rfl <| ok_aloadn (pc' := 86) i213_85 rfl rfl <| ok_getfr (r := 110) (pc' := 89) i213_86 o213 gr13_164 (hY.gr.ky) (hY.gr.r7) rfl <| ok_iloadn (pc' := 90) i213_89 rfl rfl <| ok_iaload (v := (s 13)) (pc' := 91) i213_90 (hY.gr.ka) (by decide) (hY.gr.la) (by decide) ((Yd.acz hY (i := 7) (z := 13) (by omega) (by omega) (by omega))) rfl <| ok_ceqs (pc1 := 96) (pc2 := 94) i213_91 rfl rfl <| ok_iinc (pc' := 99) (v := 8) (ls' := [aR O, aR 101, aI 8, aU, aU, aU]) i213_96 rfl rfl rfl rfl <| ok_goto (pc' := 74) i213_99 rfl <| ?_
  refine ok_iloadn (pc' := 75) i213_74 rfl rfl <| ok_bipush (v := 8) (pc' := 77) i213_75 rfl rfl <| ok_kc1 (pc1 := 102) (pc2 := 80) i213_77 (by decide) rfl rfl <| ok_iconst (pc' := 103) i213_102 rfl <| ok_istoren (pc' := 104) (ls' := [aR O, aR 101, aI 0, aU, aU, aU]) i213_103 (bt rfl) rfl rfl <| ?_
  exact K
theorem w213_104 {g : AG} {M : AM} {O : Nat} {A : YA} {s q : Int → Int} {b : Int} {d : Nat} {Q : AO → AG → AM → Prop} (hY : Yd g M O A s q) (hW : CW g M O b q s) (K : ∀ (k : Int) (w3 : AV), am_cat w3 = 1 → Ok (d + 12) 213 200 [aR O, aR 101, aI k, w3, aU, aU] [] g M Q) : Ok (d + 12) 213 104 [aR O, aR 101, aI 0, aU, aU, aU] [] g M Q := by
  have hV := hW.2.1.v
  have hQ := V_q hV
  have y3 := V_3 hV
  have y4 := V_4 hV
  have y5 := V_5 hV
  have yq0 := Q_0 hQ
  have yq1 := Q_1 hQ
  refine ok_lp (σ := Int) (fun k ls g9 M9 => (0 ≤ k ∧ k ≤ s 3) ∧ g9 = g ∧ M9 = M ∧ ∃ w3 : AV, am_cat w3 = 1 ∧ ls = [aR O, aR 101, aI k, w3, aU, aU]) (fun k => (s 3 - k).toNat) ?_ 0 _ g M ⟨by omega, rfl, rfl, aU, rfl, rfl⟩
  rintro k ls g9 M9 ⟨hk, rfl, rfl, w3, hw3, rfl⟩ ih
  refine ok_iloadn (pc' := 105) i213_104 rfl rfl <| ok_aloadn (pc' := 106) i213_105 rfl rfl <| ok_getfi (v := (s 3)) (pc' := 109) i213_106 o213 gi13_152 (hY.gr.ky) ((Yd.n3 hY)) rfl <| ?_
  refine ok_cge (pc1 := 200) (pc2 := 112) i213_109 (by omega) rfl rfl (fun h1 => ?_) (fun h1 => ?_)
  · exact K _ _ hw3
  · refine ok_aloadn (pc' := 113) i213_112 rfl rfl <| ok_getfr (r := 107) (pc' := 116) i213_113 o213 gr13_168 (hY.gr.ky) (hY.gr.r4) rfl <| ok_iloadn (pc' := 117) i213_116 rfl rfl <| ok_aaload (r := (A.R k)) (pc' := 118) i213_117 (hY.gr.k7) (by decide) (hY.gr.l7) (by omega) ((hY.gr.rr k (by omega) (by omega)).1) rfl <| ok_astoren (pc' := 119) (ls' := [aR O, aR 101, aI k, aR (A.R k), aU, aU]) i213_118 (bt rfl) rfl rfl <| ok_aloadn (pc' := 120) i213_119 rfl rfl <| ok_iloadn (pc' := 121) i213_120 rfl rfl <| ok_iconst (pc' := 122) i213_121 rfl <| ?_
    refine ok_cc i213_122 rfl (cl_v o213 m13_40 na102 rfl rfl (bt rfl) (bt rfl) rfl (by rw [(ShYard_k0 hW.1.y), o102])) ln102 (pd102 (aR O) (aI k) (aI 0)) <| (Ok.deep (y102_0 (Y := O) (P := O + 38) (A := O + 49) (V := O + 73) (T := O + 74) (K := O + 100) (H := O + 102) (X := O + 346) (x1 := k) hW.1.y hW.1.w hW.1.p hW.1.s hW.2.1.p hW.2.1.s hQ hV (by omega) hW.2.1.l) (by omega)).mono (fun o9 g15q M15q p15q => ?_)
    obtain ⟨rfl, eg15q, em15q⟩ := p15q
    rw [eg15q, em15q]
    refine kt_v (pc' := 125) rfl <| ok_aloadn (pc' := 126) i213_125 rfl rfl <| ?_
    have z2 : 0 ≤ s (14 + k) ∧ s (14 + k) < q 0 := V_d0 hV (by omega) (by omega)
    refine ok_getfi (v := (s (14 + k))) (pc' := 129) i213_126 o213 gi13_172 ((hY.gr.rr k (by omega) (by omega)).2.2) ((Yd.r1 hY (k := k) (by omega) (by omega))) rfl <| ok_cnes (pc1 := 192) (pc2 := 132) i213_129 rfl rfl <| ok_aloadn (pc' := 133) i213_132 rfl rfl <| ok_iloadn (pc' := 134) i213_133 rfl rfl <| ok_iconst (pc' := 135) i213_134 rfl <| ?_
    refine ok_cc i213_135 rfl (cl_v o213 m13_40 na102 rfl rfl (bt rfl) (bt rfl) rfl (by rw [(ShYard_k0 hW.1.y), o102])) ln102 (pd102 (aR O) (aI k) (aI 1)) <| (Ok.deep (y102_1 (Y := O) (P := O + 38) (A := O + 49) (V := O + 73) (T := O + 74) (K := O + 100) (H := O + 102) (X := O + 346) (x1 := k) hW.1.y hW.1.w hW.1.p hW.1.s hW.2.1.p hW.2.1.s hQ hV (by omega) hW.2.1.l) (by omega)).mono (fun o9 g16q M16q p16q => ?_)
    obtain ⟨rfl, eg16q, em16q⟩ := p16q
    rw [eg16q, em16q]
    refine kt_v (pc' := 138) rfl <| ok_aloadn (pc' := 139) i213_138 rfl rfl <| ?_
    have z3 : 0 ≤ s (94 + k) ∧ s (94 + k) ≤ 200 := V_d1 hV (by omega) (by omega)
    refine ok_getfi (v := (s (94 + k))) (pc' := 142) i213_139 o213 gi13_176 ((hY.gr.rr k (by omega) (by omega)).2.2) ((Yd.r2 hY (k := k) (by omega) (by omega))) rfl <| ok_cnes (pc1 := 192) (pc2 := 145) i213_142 rfl rfl <| ok_aloadn (pc' := 146) i213_145 rfl rfl <| ok_iloadn (pc' := 147) i213_146 rfl rfl <| ok_iconst (pc' := 148) i213_147 rfl <| ?_
    refine ok_cc i213_148 rfl (cl_v o213 m13_40 na102 rfl rfl (bt rfl) (bt rfl) rfl (by rw [(ShYard_k0 hW.1.y), o102])) ln102 (pd102 (aR O) (aI k) (aI 2)) <| (Ok.deep (y102_2 (Y := O) (P := O + 38) (A := O + 49) (V := O + 73) (T := O + 74) (K := O + 100) (H := O + 102) (X := O + 346) (x1 := k) hW.1.y hW.1.w hW.1.p hW.1.s hW.2.1.p hW.2.1.s hQ hV (by omega) hW.2.1.l) (by omega)).mono (fun o9 g17q M17q p17q => ?_)
    obtain ⟨rfl, eg17q, em17q⟩ := p17q
    rw [eg17q, em17q]
    refine kt_v (pc' := 151) rfl <| ok_aloadn (pc' := 152) i213_151 rfl rfl <| ?_
    have z4 : 0 ≤ s (174 + k) ∧ s (174 + k) ≤ 2 := V_d2 hV (by omega) (by omega)
    refine ok_getfi (v := (s (174 + k))) (pc' := 155) i213_152 o213 gi13_178 ((hY.gr.rr k (by omega) (by omega)).2.2) ((Yd.r3 hY (k := k) (by omega) (by omega))) rfl <| ok_cnes (pc1 := 192) (pc2 := 158) i213_155 rfl rfl <| ok_aloadn (pc' := 159) i213_158 rfl rfl <| ok_iloadn (pc' := 160) i213_159 rfl rfl <| ok_iconst (pc' := 161) i213_160 rfl <| ?_
    refine ok_cc i213_161 rfl (cl_v o213 m13_40 na102 rfl rfl (bt rfl) (bt rfl) rfl (by rw [(ShYard_k0 hW.1.y), o102])) ln102 (pd102 (aR O) (aI k) (aI 3)) <| (Ok.deep (y102_3 (Y := O) (P := O + 38) (A := O + 49) (V := O + 73) (T := O + 74) (K := O + 100) (H := O + 102) (X := O + 346) (x1 := k) hW.1.y hW.1.w hW.1.p hW.1.s hW.2.1.p hW.2.1.s hQ hV (by omega) hW.2.1.l) (by omega)).mono (fun o9 g18q M18q p18q => ?_)
    obtain ⟨rfl, eg18q, em18q⟩ := p18q
    rw [eg18q, em18q]
    refine kt_v (pc' := 164) rfl <| ok_aloadn (pc' := 165) i213_164 rfl rfl <| ok_getfi (v := (s (254 + k))) (pc' := 168) i213_165 o213 gi13_181 ((hY.gr.rr k (by omega) (by omega)).2.2) ((Yd.r4 hY (k := k) (by omega) (by omega))) rfl <| ok_cnes (pc1 := 192) (pc2 := 171) i213_168 rfl rfl <| ok_aloadn (pc' := 172) i213_171 rfl rfl <| ok_iloadn (pc' := 173) i213_172 rfl rfl <| ok_iconst (pc' := 174) i213_173 rfl <| ?_
    refine ok_cc i213_174 rfl (cl_v o213 m13_40 na102 rfl rfl (bt rfl) (bt rfl) rfl (by rw [(ShYard_k0 hW.1.y), o102])) ln102 (pd102 (aR O) (aI k) (aI 4)) <| (Ok.deep (y102_4 (Y := O) (P := O + 38) (A := O + 49) (V := O + 73) (T := O + 74) (K := O + 100) (H := O + 102) (X := O + 346) (x1 := k) hW.1.y hW.1.w hW.1.p hW.1.s hW.2.1.p hW.2.1.s hQ hV (by omega) hW.2.1.l) (by omega)).mono (fun o9 g19q M19q p19q => ?_)
    obtain ⟨rfl, eg19q, em19q⟩ := p19q
    rw [eg19q, em19q]
    refine kt_v (pc' := 177) rfl <| ok_aloadn (pc' := 178) i213_177 rfl rfl <| ?_
    have z5 : 0 ≤ s (334 + k) ∧ s (334 + k) ≤ 1 := V_d4 hV (by omega) (by omega)
    refine ok_getfi (v := (s (334 + k))) (pc' := 181) i213_178 o213 gi13_184 ((hY.gr.rr k (by omega) (by omega)).2.2) ((Yd.r5 hY (k := k) (by omega) (by omega))) rfl <| ?_
    refine ok_zeq (pc1 := 188) (pc2 := 184) i213_181 (by omega) rfl rfl (fun h6 => ?_) (fun h6 => ?_)
    · refine ok_iconst (pc' := 189) i213_188 rfl <| ?_
      refine ok_ceq (pc1 := 194) (pc2 := 192) i213_189 (by omega) rfl rfl (fun h7 => ?_) (fun h9 => by exfalso; omega)
      refine ok_iinc (pc' := 197) (v := (k + 1)) (ls' := [aR O, aR 101, aI (k + 1), aR (A.R k), aU, aU]) i213_194 rfl rfl rfl rfl <| ok_goto (pc' := 104) i213_197 rfl <| ?_
      exact ih (k + 1) _ _ _ (by omega) ⟨by omega, rfl, rfl, _, rfl, rfl⟩
    · refine ok_iconst (pc' := 185) i213_184 rfl <| ok_goto (pc' := 189) i213_185 rfl <| ?_
      refine ok_ceq (pc1 := 194) (pc2 := 192) i213_189 (by omega) rfl rfl (fun h8 => ?_) (fun h9 => by exfalso; omega)
      refine ok_iinc (pc' := 197) (v := (k + 1)) (ls' := [aR O, aR 101, aI (k + 1), aR (A.R k), aU, aU]) i213_194 rfl rfl rfl rfl <| ok_goto (pc' := 104) i213_197 rfl <| ?_
      exact ih (k + 1) _ _ _ (by omega) ⟨by omega, rfl, rfl, _, rfl, rfl⟩
theorem w213_330 {g : AG} {M : AM} {O : Nat} {A : YA} {s q : Int → Int} {b : Int} {d : Nat} {w3 w4 w5 : AV} {Q : AO → AG → AM → Prop} (hY : Yd g M O A s q) (hW : CW g M O b q s) (hw3 : am_cat w3 = 1) (hret : Q (.inl (some (aI 1))) g M) : Ok (d + 12) 213 330 [aR O, aR 101, aI 1, w3, w4, w5] [] g M Q := by
  have hV := hW.2.1.v
  have hQ := V_q hV
  have y3 := V_3 hV
  have y4 := V_4 hV
  have y5 := V_5 hV
  have yq0 := Q_0 hQ
  have yq1 := Q_1 hQ
  refine ok_lp (σ := Int) (fun k ls g9 M9 => (1 ≤ k ∧ k ≤ 9) ∧ g9 = g ∧ M9 = M ∧ ls = [aR O, aR 101, aI k, w3, w4, w5]) (fun k => (9 - k).toNat) ?_ 1 _ g M ⟨by omega, rfl, rfl, rfl⟩
  rintro k ls g9 M9 ⟨hk, rfl, rfl, rfl⟩ ih
  refine ok_iloadn (pc' := 331) i213_330 rfl rfl <| ok_bipush (v := 9) (pc' := 333) i213_331 rfl rfl <| ?_
  refine ok_cge (pc1 := 358) (pc2 := 336) i213_333 (by omega) rfl rfl (fun h1 => ?_) (fun h1 => ?_)
  · refine ok_iconst (pc' := 359) i213_358 rfl <| ok_iretz i213_359 rt213 (by decide) <| ?_
    exact hret
  · refine ok_aloadn (pc' := 337) i213_336 rfl rfl <| ok_iloadn (pc' := 338) i213_337 rfl rfl <| ?_
    refine ok_cc i213_338 rfl (cl_v o213 m13_216 na114 rfl rfl (bt rfl) (bt rfl) rfl (by rw [(ShYard_k0 hW.1.y), o114])) ln114 (pd114 (aR O) (aI k)) <| (Ok.deep (y114 (Y := O) (P := O + 38) (A := O + 49) (V := O + 73) (T := O + 74) (K := O + 100) (H := O + 102) (X := O + 346) (x1 := k) hW.1.y hW.1.w hW.1.p hW.1.s hW.2.1.p hW.2.1.s hQ hV (by omega) hW.2.1.l) (by omega)).mono (fun o9 g20q M20q p20q => ?_)
    obtain ⟨rfl, eg20q, em20q⟩ := p20q
    rw [eg20q, em20q]
    refine kt_v (pc' := 341) rfl <| ok_aloadn (pc' := 342) i213_341 rfl rfl <| ok_getfr (r := 109) (pc' := 345) i213_342 o213 gr13_219 (hY.gr.ky) (hY.gr.r6) rfl <| ok_iloadn (pc' := 346) i213_345 rfl rfl <| ?_
    have z2 : 0 ≤ s (542 + k) ∧ s (542 + k) ≤ 1000000 := V_s hV (by omega) (by omega)
    refine ok_iaload (v := (s (542 + k))) (pc' := 347) i213_346 (hY.gr.k9) (by decide) (hY.gr.l9) (by omega) ((Yd.st hY (i := k) (by omega) (by omega))) rfl <| ok_ceqs (pc1 := 352) (pc2 := 350) i213_347 rfl rfl <| ok_iinc (pc' := 355) (v := (k + 1)) (ls' := [aR O, aR 101, aI (k + 1), w3, w4, w5]) i213_352 rfl rfl rfl rfl <| ok_goto (pc' := 330) i213_355 rfl <| ?_
    exact ih (k + 1) _ _ _ (by omega) ⟨by omega, rfl, rfl, rfl⟩
theorem w213_202 {g : AG} {M : AM} {O : Nat} {A : YA} {s q : Int → Int} {b : Int} {d : Nat} {k0 : Int} {w3 : AV} {Q : AO → AG → AM → Prop} (hY : Yd g M O A s q) (hW : CW g M O b q s) (hw3 : am_cat w3 = 1) (K : ∀ (g1 : AG) (M1 : AM) (k : Int) (w3 w4 w5 : AV), am_cat w3 = 1 → am_cat w4 = 1 → am_cat w5 = 1 → Yd g1 M1 O A s q → CW g1 M1 O b q s → Fr FN 16 128 g M g1 M1 → Ok (d + 12) 213 328 [aR O, aR 101, aI k, w3, w4, w5] [] g1 M1 Q) : Ok (d + 12) 213 202 [aR O, aR 101, aI 0, w3, aU, aU] [] g M Q := by
  have hV := hW.2.1.v
  have hQ := V_q hV
  have y3 := V_3 hV
  have y4 := V_4 hV
  have y5 := V_5 hV
  have yq0 := Q_0 hQ
  have yq1 := Q_1 hQ
  refine ok_lp (σ := Int) (fun k ls g9 M9 => (0 ≤ k ∧ k ≤ s 4) ∧ Yd g9 M9 O A s q ∧ CW g9 M9 O b q s ∧ Fr FN k.toNat (8 * k.toNat) g M g9 M9 ∧ ∃ w3 w4 w5 : AV, am_cat w3 = 1 ∧ am_cat w4 = 1 ∧ am_cat w5 = 1 ∧ ls = [aR O, aR 101, aI k, w3, w4, w5]) (fun k => (s 4 - k).toNat) ?_ 0 _ g M ⟨by omega, hY, hW, Fr.w Fr.rfl (by omega) (by omega), w3, aU, aU, hw3, rfl, rfl, rfl⟩
  rintro k ls g9 M9 ⟨hk, hY, hW, hfr0, w3, w4, w5, hw3, hw4, hw5, rfl⟩ ih
  have hfr := hfr0
  refine ok_iloadn (pc' := 203) i213_202 rfl rfl <| ok_aloadn (pc' := 204) i213_203 rfl rfl <| ok_getfi (v := (s 4)) (pc' := 207) i213_204 o213 gi13_155 (hY.gr.ky) ((Yd.n4 hY)) rfl <| ?_
  refine ok_cge (pc1 := 328) (pc2 := 210) i213_207 (by omega) rfl rfl (fun h1 => ?_) (fun h1 => ?_)
  · exact K _ _ _ _ _ _ hw3 hw4 hw5 hY hW (Fr.w hfr (by omega) (by omega))
  · refine ok_aloadn (pc' := 211) i213_210 rfl rfl <| ok_getfr (r := 108) (pc' := 214) i213_211 o213 gr13_188 (hY.gr.ky) (hY.gr.r5) rfl <| ok_iloadn (pc' := 215) i213_214 rfl rfl <| ok_aaload (r := (A.D k)) (pc' := 216) i213_215 (hY.gr.k8) (by decide) (hY.gr.l8) (by omega) ((hY.gr.dd k (by omega) (by omega)).1) rfl <| ok_astoren (pc' := 217) (ls' := [aR O, aR 101, aI k, aR (A.D k), w4, w5]) i213_216 (bt rfl) rfl rfl <| ok_bipush (v := 8) (pc' := 219) i213_217 rfl rfl <| ?_
    refine ok_nia (pc' := 221) i213_219 (by decide) rfl (fun xr2 g2 M2 hx2 hn2 hA2 e2 => ?_)
    have hYa2 := Yd.f0 hY e2
    have hl2 : xr2 < 100 + gN g2 := by omega
    have hWn3 := CW.f0 hW e2
    refine ok_dup (pc' := 222) i213_221 rfl rfl <| ok_iconst (pc' := 223) i213_222 rfl <| ok_aloadn (pc' := 224) i213_223 rfl rfl <| ?_
    have z4 : 1 ≤ s (414 + (8 * k)) ∧ s (414 + (8 * k)) ≤ 200 := V_o0 hV (by omega) (by omega)
    refine ok_getfi (v := (s (414 + (8 * k)))) (pc' := 227) i213_224 o213 gi13_192 ((hYa2.gr.dd k (by omega) (by omega)).2.2) ((Yd.d1 hYa2 (k := k) (by omega) (by omega))) rfl <| ?_
    have b5 := hA2.2.1
    refine ok_iastore (pc' := 228) i213_227 (hA2.1) (rfl) (by omega) rfl <| ?_
    have e6 := Fr.up (x := 0) (v := (s (414 + (8 * k)))) e2 (Or.inr (Nat.le_of_eq hx2))
    have hYa6 := Yd.f0 hY e6
    have hA6 := IA.up (x := 0) (v := (s (414 + (8 * k)))) hA2
    have hWn7 := CW.f0 hW e6
    refine ok_dup (pc' := 229) i213_228 rfl rfl <| ok_iconst (pc' := 230) i213_229 rfl <| ok_aloadn (pc' := 231) i213_230 rfl rfl <| ?_
    have z8 : 1 ≤ s ((414 + (8 * k)) + 1) ∧ s ((414 + (8 * k)) + 1) ≤ 9 := V_o1 hV (by omega) (by omega)
    refine ok_getfi (v := (s ((414 + (8 * k)) + 1))) (pc' := 234) i213_231 o213 gi13_195 ((hYa6.gr.dd k (by omega) (by omega)).2.2) ((Yd.d2 hYa6 (k := k) (by omega) (by omega))) rfl <| ?_
    have b9 := hA6.2.1
    refine ok_iastore (pc' := 235) i213_234 (hA6.1) (rfl) (by omega) rfl <| ?_
    have e10 := Fr.up (x := 1) (v := (s ((414 + (8 * k)) + 1))) e6 (Or.inr (Nat.le_of_eq hx2))
    have hYa10 := Yd.f0 hY e10
    have hA10 := IA.up (x := 1) (v := (s ((414 + (8 * k)) + 1))) hA6
    have hWn11 := CW.f0 hW e10
    refine ok_dup (pc' := 236) i213_235 rfl rfl <| ok_iconst (pc' := 237) i213_236 rfl <| ok_aloadn (pc' := 238) i213_237 rfl rfl <| ?_
    have z12 : 0 ≤ s ((414 + (8 * k)) + 2) ∧ s ((414 + (8 * k)) + 2) ≤ 99 := V_o2 hV (by omega) (by omega)
    refine ok_getfi (v := (s ((414 + (8 * k)) + 2))) (pc' := 241) i213_238 o213 gi13_198 ((hYa10.gr.dd k (by omega) (by omega)).2.2) ((Yd.d3 hYa10 (k := k) (by omega) (by omega))) rfl <| ?_
    have b13 := hA10.2.1
    refine ok_iastore (pc' := 242) i213_241 (hA10.1) (rfl) (by omega) rfl <| ?_
    have e14 := Fr.up (x := 2) (v := (s ((414 + (8 * k)) + 2))) e10 (Or.inr (Nat.le_of_eq hx2))
    have hYa14 := Yd.f0 hY e14
    have hA14 := IA.up (x := 2) (v := (s ((414 + (8 * k)) + 2))) hA10
    have hWn15 := CW.f0 hW e14
    refine ok_dup (pc' := 243) i213_242 rfl rfl <| ok_iconst (pc' := 244) i213_243 rfl <| ok_aloadn (pc' := 245) i213_244 rfl rfl <| ?_
    have z16 : 0 ≤ s ((414 + (8 * k)) + 3) ∧ s ((414 + (8 * k)) + 3) ≤ 999 := V_o3 hV (by omega) (by omega)
    refine ok_getfi (v := (s ((414 + (8 * k)) + 3))) (pc' := 248) i213_245 o213 gi13_201 ((hYa14.gr.dd k (by omega) (by omega)).2.2) ((Yd.d4 hYa14 (k := k) (by omega) (by omega))) rfl <| ?_
    have b17 := hA14.2.1
    refine ok_iastore (pc' := 249) i213_248 (hA14.1) (rfl) (by omega) rfl <| ?_
    have e18 := Fr.up (x := 3) (v := (s ((414 + (8 * k)) + 3))) e14 (Or.inr (Nat.le_of_eq hx2))
    have hYa18 := Yd.f0 hY e18
    have hA18 := IA.up (x := 3) (v := (s ((414 + (8 * k)) + 3))) hA14
    have hWn19 := CW.f0 hW e18
    refine ok_dup (pc' := 250) i213_249 rfl rfl <| ok_iconst (pc' := 251) i213_250 rfl <| ok_aloadn (pc' := 252) i213_251 rfl rfl <| ?_
    have z20 : 0 ≤ s ((414 + (8 * k)) + 4) ∧ s ((414 + (8 * k)) + 4) ≤ 9 := V_o4 hV (by omega) (by omega)
    refine ok_getfi (v := (s ((414 + (8 * k)) + 4))) (pc' := 255) i213_252 o213 gi13_204 ((hYa18.gr.dd k (by omega) (by omega)).2.2) ((Yd.d5 hYa18 (k := k) (by omega) (by omega))) rfl <| ?_
    have b21 := hA18.2.1
    refine ok_iastore (pc' := 256) i213_255 (hA18.1) (rfl) (by omega) rfl <| ?_
    have e22 := Fr.up (x := 4) (v := (s ((414 + (8 * k)) + 4))) e18 (Or.inr (Nat.le_of_eq hx2))
    have hYa22 := Yd.f0 hY e22
    have hA22 := IA.up (x := 4) (v := (s ((414 + (8 * k)) + 4))) hA18
    have hWn23 := CW.f0 hW e22
    refine ok_dup (pc' := 257) i213_256 rfl rfl <| ok_iconst (pc' := 258) i213_257 rfl <| ok_aloadn (pc' := 259) i213_258 rfl rfl <| ?_
    have z24 : 0 ≤ s ((414 + (8 * k)) + 5) ∧ s ((414 + (8 * k)) + 5) ≤ 9 := V_o5 hV (by omega) (by omega)
    refine ok_getfi (v := (s ((414 + (8 * k)) + 5))) (pc' := 262) i213_259 o213 gi13_207 ((hYa22.gr.dd k (by omega) (by omega)).2.2) ((Yd.d6 hYa22 (k := k) (by omega) (by omega))) rfl <| ?_
    have b25 := hA22.2.1
    refine ok_iastore (pc' := 263) i213_262 (hA22.1) (rfl) (by omega) rfl <| ?_
    have e26 := Fr.up (x := 5) (v := (s ((414 + (8 * k)) + 5))) e22 (Or.inr (Nat.le_of_eq hx2))
    have hYa26 := Yd.f0 hY e26
    have hA26 := IA.up (x := 5) (v := (s ((414 + (8 * k)) + 5))) hA22
    have hWn27 := CW.f0 hW e26
    refine ok_dup (pc' := 264) i213_263 rfl rfl <| ok_bipush (v := 6) (pc' := 266) i213_264 rfl rfl <| ok_aloadn (pc' := 267) i213_266 rfl rfl <| ?_
    have z28 : 0 ≤ s ((414 + (8 * k)) + 6) ∧ s ((414 + (8 * k)) + 6) ≤ 9 := V_o6 hV (by omega) (by omega)
    refine ok_getfi (v := (s ((414 + (8 * k)) + 6))) (pc' := 270) i213_267 o213 gi13_210 ((hYa26.gr.dd k (by omega) (by omega)).2.2) ((Yd.d7 hYa26 (k := k) (by omega) (by omega))) rfl <| ?_
    have b29 := hA26.2.1
    refine ok_iastore (pc' := 271) i213_270 (hA26.1) (rfl) (by omega) rfl <| ?_
    have e30 := Fr.up (x := 6) (v := (s ((414 + (8 * k)) + 6))) e26 (Or.inr (Nat.le_of_eq hx2))
    have hYa30 := Yd.f0 hY e30
    have hA30 := IA.up (x := 6) (v := (s ((414 + (8 * k)) + 6))) hA26
    have hWn31 := CW.f0 hW e30
    refine ok_dup (pc' := 272) i213_271 rfl rfl <| ok_bipush (v := 7) (pc' := 274) i213_272 rfl rfl <| ok_aloadn (pc' := 275) i213_274 rfl rfl <| ?_
    have z32 : 0 ≤ s ((414 + (8 * k)) + 7) ∧ s ((414 + (8 * k)) + 7) ≤ 1 := V_o7 hV (by omega) (by omega)
    refine ok_getfi (v := (s ((414 + (8 * k)) + 7))) (pc' := 278) i213_275 o213 gi13_213 ((hYa30.gr.dd k (by omega) (by omega)).2.2) ((Yd.d8 hYa30 (k := k) (by omega) (by omega))) rfl <| ?_
    refine ok_zeq (pc1 := 285) (pc2 := 281) i213_278 (by omega) rfl rfl (fun h33 => ?_) (fun h33 => ?_)
    · refine ok_iconst (pc' := 286) i213_285 rfl <| ?_
      have b34 := hA30.2.1
      refine ok_iastore (pc' := 287) i213_286 (hA30.1) (rfl) (by omega) rfl <| ?_
      have e35 := Fr.up (x := 7) (v := 0) e30 (Or.inr (Nat.le_of_eq hx2))
      have hYa35 := Yd.f0 hY e35
      have hA35 := IA.up (x := 7) (v := 0) hA30
      have hWn36 := CW.f0 hW e35
      refine ok_astore (pc' := 289) (ls' := [aR O, aR 101, aI k, aR (A.D k), aR xr2, w5]) i213_287 (bt rfl) rfl rfl <| ok_iconst (pc' := 290) i213_289 rfl <| ok_istore (pc' := 292) (ls' := [aR O, aR 101, aI k, aR (A.D k), aR xr2, aI 0]) i213_290 (bt rfl) rfl rfl <| ok_iload (pc' := 294) i213_292 rfl rfl <| ok_bipush (v := 8) (pc' := 296) i213_294 rfl rfl <| ok_kc0 (pc1 := 322) (pc2 := 299) i213_296 (by decide) rfl rfl <| ok_aloadn (pc' := 300) i213_299 rfl rfl <| ok_iloadn (pc' := 301) i213_300 rfl rfl <| ?_
      refine ok_iload (pc' := 303) i213_301 rfl rfl <| ?_
      refine ok_cc i213_303 rfl (cl_v o213 m13_44 na105 rfl rfl (bt rfl) (bt rfl) rfl (by rw [(ShYard_k0 hWn36.1.y), o105])) ln105 (pd105 (aR O) (aI k) (aI 0)) <| (Ok.deep (y105_0 (Y := O) (P := O + 38) (A := O + 49) (V := O + 73) (T := O + 74) (K := O + 100) (H := O + 102) (X := O + 346) (x1 := k) hWn36.1.y hWn36.1.w hWn36.1.p hWn36.1.s hWn36.2.1.p hWn36.2.1.s hQ hV (by omega) hWn36.2.1.l) (by omega)).mono (fun o9 g21q M21q p21q => ?_)
      obtain ⟨rfl, eg21q, em21q⟩ := p21q
      rw [eg21q, em21q]
      refine kt_v (pc' := 306) rfl <| ok_aload (pc' := 308) i213_306 rfl rfl <| ok_iload (pc' := 310) i213_308 rfl rfl <| ?_
      have b37 := hA35.2.1
      refine ok_iaload (v := (s (414 + (8 * k)))) (pc' := 311) i213_310 (hA35.1) (by decide) (rfl) (by omega) (((hA35.2.2 0 (by decide) (by decide)).trans (by rw [upI_ne (by decide), upI_ne (by decide), upI_ne (by decide), upI_ne (by decide), upI_ne (by decide), upI_ne (by decide), upI_ne (by decide), upI_eq]))) rfl <| ok_ceqs (pc1 := 316) (pc2 := 314) i213_311 rfl rfl <| ok_iinc (pc' := 319) (v := 1) (ls' := [aR O, aR 101, aI k, aR (A.D k), aR xr2, aI 1]) i213_316 rfl rfl rfl rfl <| ok_goto (pc' := 292) i213_319 rfl <| ok_iload (pc' := 294) i213_292 rfl rfl <| ok_bipush (v := 8) (pc' := 296) i213_294 rfl rfl <| ok_kc0 (pc1 := 322) (pc2 := 299) i213_296 (by decide) rfl rfl <| ok_aloadn (pc' := 300) i213_299 rfl rfl <| ?_
      refine ok_iloadn (pc' := 301) i213_300 rfl rfl <| ok_iload (pc' := 303) i213_301 rfl rfl <| ?_
      refine ok_cc i213_303 rfl (cl_v o213 m13_44 na105 rfl rfl (bt rfl) (bt rfl) rfl (by rw [(ShYard_k0 hWn36.1.y), o105])) ln105 (pd105 (aR O) (aI k) (aI 1)) <| (Ok.deep (y105_1 (Y := O) (P := O + 38) (A := O + 49) (V := O + 73) (T := O + 74) (K := O + 100) (H := O + 102) (X := O + 346) (x1 := k) hWn36.1.y hWn36.1.w hWn36.1.p hWn36.1.s hWn36.2.1.p hWn36.2.1.s hQ hV (by omega) hWn36.2.1.l) (by omega)).mono (fun o9 g22q M22q p22q => ?_)
      obtain ⟨rfl, eg22q, em22q⟩ := p22q
      rw [eg22q, em22q]
      refine kt_v (pc' := 306) rfl <| ok_aload (pc' := 308) i213_306 rfl rfl <| ok_iload (pc' := 310) i213_308 rfl rfl <| ?_
      have b38 := hA35.2.1
      refine ok_iaload (v := (s ((414 + (8 * k)) + 1))) (pc' := 311) i213_310 (hA35.1) (by decide) (rfl) (by omega) (((hA35.2.2 1 (by decide) (by decide)).trans (by rw [upI_ne (by decide), upI_ne (by decide), upI_ne (by decide), upI_ne (by decide), upI_ne (by decide), upI_ne (by decide), upI_eq]))) rfl <| ok_ceqs (pc1 := 316) (pc2 := 314) i213_311 rfl rfl <| ok_iinc (pc' := 319) (v := 2) (ls' := [aR O, aR 101, aI k, aR (A.D k), aR xr2, aI 2]) i213_316 rfl rfl rfl rfl <| ok_goto (pc' := 292) i213_319 rfl <| ok_iload (pc' := 294) i213_292 rfl rfl <| ok_bipush (v := 8) (pc' := 296) i213_294 rfl rfl <| ok_kc0 (pc1 := 322) (pc2 := 299) i213_296 (by decide) rfl rfl <| ok_aloadn (pc' := 300) i213_299 rfl rfl <| ?_
      refine ok_iloadn (pc' := 301) i213_300 rfl rfl <| ok_iload (pc' := 303) i213_301 rfl rfl <| ?_
      refine ok_cc i213_303 rfl (cl_v o213 m13_44 na105 rfl rfl (bt rfl) (bt rfl) rfl (by rw [(ShYard_k0 hWn36.1.y), o105])) ln105 (pd105 (aR O) (aI k) (aI 2)) <| (Ok.deep (y105_2 (Y := O) (P := O + 38) (A := O + 49) (V := O + 73) (T := O + 74) (K := O + 100) (H := O + 102) (X := O + 346) (x1 := k) hWn36.1.y hWn36.1.w hWn36.1.p hWn36.1.s hWn36.2.1.p hWn36.2.1.s hQ hV (by omega) hWn36.2.1.l) (by omega)).mono (fun o9 g23q M23q p23q => ?_)
      obtain ⟨rfl, eg23q, em23q⟩ := p23q
      rw [eg23q, em23q]
      refine kt_v (pc' := 306) rfl <| ok_aload (pc' := 308) i213_306 rfl rfl <| ok_iload (pc' := 310) i213_308 rfl rfl <| ?_
      have b39 := hA35.2.1
      refine ok_iaload (v := (s ((414 + (8 * k)) + 2))) (pc' := 311) i213_310 (hA35.1) (by decide) (rfl) (by omega) (((hA35.2.2 2 (by decide) (by decide)).trans (by rw [upI_ne (by decide), upI_ne (by decide), upI_ne (by decide), upI_ne (by decide), upI_ne (by decide), upI_eq]))) rfl <| ok_ceqs (pc1 := 316) (pc2 := 314) i213_311 rfl rfl <| ok_iinc (pc' := 319) (v := 3) (ls' := [aR O, aR 101, aI k, aR (A.D k), aR xr2, aI 3]) i213_316 rfl rfl rfl rfl <| ok_goto (pc' := 292) i213_319 rfl <| ok_iload (pc' := 294) i213_292 rfl rfl <| ok_bipush (v := 8) (pc' := 296) i213_294 rfl rfl <| ok_kc0 (pc1 := 322) (pc2 := 299) i213_296 (by decide) rfl rfl <| ok_aloadn (pc' := 300) i213_299 rfl rfl <| ?_
      refine ok_iloadn (pc' := 301) i213_300 rfl rfl <| ok_iload (pc' := 303) i213_301 rfl rfl <| ?_
      refine ok_cc i213_303 rfl (cl_v o213 m13_44 na105 rfl rfl (bt rfl) (bt rfl) rfl (by rw [(ShYard_k0 hWn36.1.y), o105])) ln105 (pd105 (aR O) (aI k) (aI 3)) <| (Ok.deep (y105_3 (Y := O) (P := O + 38) (A := O + 49) (V := O + 73) (T := O + 74) (K := O + 100) (H := O + 102) (X := O + 346) (x1 := k) hWn36.1.y hWn36.1.w hWn36.1.p hWn36.1.s hWn36.2.1.p hWn36.2.1.s hQ hV (by omega) hWn36.2.1.l) (by omega)).mono (fun o9 g24q M24q p24q => ?_)
      obtain ⟨rfl, eg24q, em24q⟩ := p24q
      rw [eg24q, em24q]
      refine kt_v (pc' := 306) rfl <| ok_aload (pc' := 308) i213_306 rfl rfl <| ok_iload (pc' := 310) i213_308 rfl rfl <| ?_
      have b40 := hA35.2.1
      refine ok_iaload (v := (s ((414 + (8 * k)) + 3))) (pc' := 311) i213_310 (hA35.1) (by decide) (rfl) (by omega) (((hA35.2.2 3 (by decide) (by decide)).trans (by rw [upI_ne (by decide), upI_ne (by decide), upI_ne (by decide), upI_ne (by decide), upI_eq]))) rfl <| ok_ceqs (pc1 := 316) (pc2 := 314) i213_311 rfl rfl <| ok_iinc (pc' := 319) (v := 4) (ls' := [aR O, aR 101, aI k, aR (A.D k), aR xr2, aI 4]) i213_316 rfl rfl rfl rfl <| ok_goto (pc' := 292) i213_319 rfl <| ok_iload (pc' := 294) i213_292 rfl rfl <| ok_bipush (v := 8) (pc' := 296) i213_294 rfl rfl <| ok_kc0 (pc1 := 322) (pc2 := 299) i213_296 (by decide) rfl rfl <| ok_aloadn (pc' := 300) i213_299 rfl rfl <| ?_
      refine ok_iloadn (pc' := 301) i213_300 rfl rfl <| ok_iload (pc' := 303) i213_301 rfl rfl <| ?_
      refine ok_cc i213_303 rfl (cl_v o213 m13_44 na105 rfl rfl (bt rfl) (bt rfl) rfl (by rw [(ShYard_k0 hWn36.1.y), o105])) ln105 (pd105 (aR O) (aI k) (aI 4)) <| (Ok.deep (y105_4 (Y := O) (P := O + 38) (A := O + 49) (V := O + 73) (T := O + 74) (K := O + 100) (H := O + 102) (X := O + 346) (x1 := k) hWn36.1.y hWn36.1.w hWn36.1.p hWn36.1.s hWn36.2.1.p hWn36.2.1.s hQ hV (by omega) hWn36.2.1.l) (by omega)).mono (fun o9 g25q M25q p25q => ?_)
      obtain ⟨rfl, eg25q, em25q⟩ := p25q
      rw [eg25q, em25q]
      refine kt_v (pc' := 306) rfl <| ok_aload (pc' := 308) i213_306 rfl rfl <| ok_iload (pc' := 310) i213_308 rfl rfl <| ?_
      have b41 := hA35.2.1
      refine ok_iaload (v := (s ((414 + (8 * k)) + 4))) (pc' := 311) i213_310 (hA35.1) (by decide) (rfl) (by omega) (((hA35.2.2 4 (by decide) (by decide)).trans (by rw [upI_ne (by decide), upI_ne (by decide), upI_ne (by decide), upI_eq]))) rfl <| ok_ceqs (pc1 := 316) (pc2 := 314) i213_311 rfl rfl <| ok_iinc (pc' := 319) (v := 5) (ls' := [aR O, aR 101, aI k, aR (A.D k), aR xr2, aI 5]) i213_316 rfl rfl rfl rfl <| ok_goto (pc' := 292) i213_319 rfl <| ok_iload (pc' := 294) i213_292 rfl rfl <| ok_bipush (v := 8) (pc' := 296) i213_294 rfl rfl <| ok_kc0 (pc1 := 322) (pc2 := 299) i213_296 (by decide) rfl rfl <| ok_aloadn (pc' := 300) i213_299 rfl rfl <| ?_
      refine ok_iloadn (pc' := 301) i213_300 rfl rfl <| ok_iload (pc' := 303) i213_301 rfl rfl <| ?_
      refine ok_cc i213_303 rfl (cl_v o213 m13_44 na105 rfl rfl (bt rfl) (bt rfl) rfl (by rw [(ShYard_k0 hWn36.1.y), o105])) ln105 (pd105 (aR O) (aI k) (aI 5)) <| (Ok.deep (y105_5 (Y := O) (P := O + 38) (A := O + 49) (V := O + 73) (T := O + 74) (K := O + 100) (H := O + 102) (X := O + 346) (x1 := k) hWn36.1.y hWn36.1.w hWn36.1.p hWn36.1.s hWn36.2.1.p hWn36.2.1.s hQ hV (by omega) hWn36.2.1.l) (by omega)).mono (fun o9 g26q M26q p26q => ?_)
      obtain ⟨rfl, eg26q, em26q⟩ := p26q
      rw [eg26q, em26q]
      refine kt_v (pc' := 306) rfl <| ok_aload (pc' := 308) i213_306 rfl rfl <| ok_iload (pc' := 310) i213_308 rfl rfl <| ?_
      have b42 := hA35.2.1
      refine ok_iaload (v := (s ((414 + (8 * k)) + 5))) (pc' := 311) i213_310 (hA35.1) (by decide) (rfl) (by omega) (((hA35.2.2 5 (by decide) (by decide)).trans (by rw [upI_ne (by decide), upI_ne (by decide), upI_eq]))) rfl <| ok_ceqs (pc1 := 316) (pc2 := 314) i213_311 rfl rfl <| ok_iinc (pc' := 319) (v := 6) (ls' := [aR O, aR 101, aI k, aR (A.D k), aR xr2, aI 6]) i213_316 rfl rfl rfl rfl <| ok_goto (pc' := 292) i213_319 rfl <| ok_iload (pc' := 294) i213_292 rfl rfl <| ok_bipush (v := 8) (pc' := 296) i213_294 rfl rfl <| ok_kc0 (pc1 := 322) (pc2 := 299) i213_296 (by decide) rfl rfl <| ok_aloadn (pc' := 300) i213_299 rfl rfl <| ?_
      refine ok_iloadn (pc' := 301) i213_300 rfl rfl <| ok_iload (pc' := 303) i213_301 rfl rfl <| ?_
      refine ok_cc i213_303 rfl (cl_v o213 m13_44 na105 rfl rfl (bt rfl) (bt rfl) rfl (by rw [(ShYard_k0 hWn36.1.y), o105])) ln105 (pd105 (aR O) (aI k) (aI 6)) <| (Ok.deep (y105_6 (Y := O) (P := O + 38) (A := O + 49) (V := O + 73) (T := O + 74) (K := O + 100) (H := O + 102) (X := O + 346) (x1 := k) hWn36.1.y hWn36.1.w hWn36.1.p hWn36.1.s hWn36.2.1.p hWn36.2.1.s hQ hV (by omega) hWn36.2.1.l) (by omega)).mono (fun o9 g27q M27q p27q => ?_)
      obtain ⟨rfl, eg27q, em27q⟩ := p27q
      rw [eg27q, em27q]
      refine kt_v (pc' := 306) rfl <| ok_aload (pc' := 308) i213_306 rfl rfl <| ok_iload (pc' := 310) i213_308 rfl rfl <| ?_
      have b43 := hA35.2.1
      refine ok_iaload (v := (s ((414 + (8 * k)) + 6))) (pc' := 311) i213_310 (hA35.1) (by decide) (rfl) (by omega) (((hA35.2.2 6 (by decide) (by decide)).trans (by rw [upI_ne (by decide), upI_eq]))) rfl <| ok_ceqs (pc1 := 316) (pc2 := 314) i213_311 rfl rfl <| ok_iinc (pc' := 319) (v := 7) (ls' := [aR O, aR 101, aI k, aR (A.D k), aR xr2, aI 7]) i213_316 rfl rfl rfl rfl <| ok_goto (pc' := 292) i213_319 rfl <| ok_iload (pc' := 294) i213_292 rfl rfl <| ok_bipush (v := 8) (pc' := 296) i213_294 rfl rfl <| ok_kc0 (pc1 := 322) (pc2 := 299) i213_296 (by decide) rfl rfl <| ok_aloadn (pc' := 300) i213_299 rfl rfl <| ?_
      refine ok_iloadn (pc' := 301) i213_300 rfl rfl <| ok_iload (pc' := 303) i213_301 rfl rfl <| ?_
      refine ok_cc i213_303 rfl (cl_v o213 m13_44 na105 rfl rfl (bt rfl) (bt rfl) rfl (by rw [(ShYard_k0 hWn36.1.y), o105])) ln105 (pd105 (aR O) (aI k) (aI 7)) <| (Ok.deep (y105_7 (Y := O) (P := O + 38) (A := O + 49) (V := O + 73) (T := O + 74) (K := O + 100) (H := O + 102) (X := O + 346) (x1 := k) hWn36.1.y hWn36.1.w hWn36.1.p hWn36.1.s hWn36.2.1.p hWn36.2.1.s hQ hV (by omega) hWn36.2.1.l) (by omega)).mono (fun o9 g28q M28q p28q => ?_)
      obtain ⟨rfl, eg28q, em28q⟩ := p28q
      rw [eg28q, em28q]
      refine kt_v (pc' := 306) rfl <| ok_aload (pc' := 308) i213_306 rfl rfl <| ok_iload (pc' := 310) i213_308 rfl rfl <| ?_
      have b44 := hA35.2.1
      refine ok_iaload (v := 0) (pc' := 311) i213_310 (hA35.1) (by decide) (rfl) (by omega) (((hA35.2.2 7 (by decide) (by decide)).trans (by rw [upI_eq]))) rfl <| ?_
      refine ok_ceq (pc1 := 316) (pc2 := 314) i213_311 (by omega) rfl rfl (fun h45 => ?_) (fun h9 => by exfalso; omega)
      refine ok_iinc (pc' := 319) (v := 8) (ls' := [aR O, aR 101, aI k, aR (A.D k), aR xr2, aI 8]) i213_316 rfl rfl rfl rfl <| ok_goto (pc' := 292) i213_319 rfl <| ok_iload (pc' := 294) i213_292 rfl rfl <| ok_bipush (v := 8) (pc' := 296) i213_294 rfl rfl <| ok_kc1 (pc1 := 322) (pc2 := 299) i213_296 (by decide) rfl rfl <| ok_iinc (pc' := 325) (v := (k + 1)) (ls' := [aR O, aR 101, aI (k + 1), aR (A.D k), aR xr2, aI 8]) i213_322 rfl rfl rfl rfl <| ok_goto (pc' := 202) i213_325 rfl <| ?_
      exact ih (k + 1) _ _ _ (by omega) ⟨by omega, hYa35, hWn36, Fr.w (Fr.trans hfr e35) (by omega) (by omega), _, _, _, rfl, rfl, rfl, rfl⟩
    · refine ok_iconst (pc' := 282) i213_281 rfl <| ok_goto (pc' := 286) i213_282 rfl <| ?_
      have b46 := hA30.2.1
      refine ok_iastore (pc' := 287) i213_286 (hA30.1) (rfl) (by omega) rfl <| ?_
      have e47 := Fr.up (x := 7) (v := 1) e30 (Or.inr (Nat.le_of_eq hx2))
      have hYa47 := Yd.f0 hY e47
      have hA47 := IA.up (x := 7) (v := 1) hA30
      have hWn48 := CW.f0 hW e47
      refine ok_astore (pc' := 289) (ls' := [aR O, aR 101, aI k, aR (A.D k), aR xr2, w5]) i213_287 (bt rfl) rfl rfl <| ok_iconst (pc' := 290) i213_289 rfl <| ok_istore (pc' := 292) (ls' := [aR O, aR 101, aI k, aR (A.D k), aR xr2, aI 0]) i213_290 (bt rfl) rfl rfl <| ok_iload (pc' := 294) i213_292 rfl rfl <| ok_bipush (v := 8) (pc' := 296) i213_294 rfl rfl <| ok_kc0 (pc1 := 322) (pc2 := 299) i213_296 (by decide) rfl rfl <| ok_aloadn (pc' := 300) i213_299 rfl rfl <| ok_iloadn (pc' := 301) i213_300 rfl rfl <| ?_
      refine ok_iload (pc' := 303) i213_301 rfl rfl <| ?_
      refine ok_cc i213_303 rfl (cl_v o213 m13_44 na105 rfl rfl (bt rfl) (bt rfl) rfl (by rw [(ShYard_k0 hWn48.1.y), o105])) ln105 (pd105 (aR O) (aI k) (aI 0)) <| (Ok.deep (y105_0 (Y := O) (P := O + 38) (A := O + 49) (V := O + 73) (T := O + 74) (K := O + 100) (H := O + 102) (X := O + 346) (x1 := k) hWn48.1.y hWn48.1.w hWn48.1.p hWn48.1.s hWn48.2.1.p hWn48.2.1.s hQ hV (by omega) hWn48.2.1.l) (by omega)).mono (fun o9 g29q M29q p29q => ?_)
      obtain ⟨rfl, eg29q, em29q⟩ := p29q
      rw [eg29q, em29q]
      refine kt_v (pc' := 306) rfl <| ok_aload (pc' := 308) i213_306 rfl rfl <| ok_iload (pc' := 310) i213_308 rfl rfl <| ?_
      have b49 := hA47.2.1
      refine ok_iaload (v := (s (414 + (8 * k)))) (pc' := 311) i213_310 (hA47.1) (by decide) (rfl) (by omega) (((hA47.2.2 0 (by decide) (by decide)).trans (by rw [upI_ne (by decide), upI_ne (by decide), upI_ne (by decide), upI_ne (by decide), upI_ne (by decide), upI_ne (by decide), upI_ne (by decide), upI_eq]))) rfl <| ok_ceqs (pc1 := 316) (pc2 := 314) i213_311 rfl rfl <| ok_iinc (pc' := 319) (v := 1) (ls' := [aR O, aR 101, aI k, aR (A.D k), aR xr2, aI 1]) i213_316 rfl rfl rfl rfl <| ok_goto (pc' := 292) i213_319 rfl <| ok_iload (pc' := 294) i213_292 rfl rfl <| ok_bipush (v := 8) (pc' := 296) i213_294 rfl rfl <| ok_kc0 (pc1 := 322) (pc2 := 299) i213_296 (by decide) rfl rfl <| ok_aloadn (pc' := 300) i213_299 rfl rfl <| ?_
      refine ok_iloadn (pc' := 301) i213_300 rfl rfl <| ok_iload (pc' := 303) i213_301 rfl rfl <| ?_
      refine ok_cc i213_303 rfl (cl_v o213 m13_44 na105 rfl rfl (bt rfl) (bt rfl) rfl (by rw [(ShYard_k0 hWn48.1.y), o105])) ln105 (pd105 (aR O) (aI k) (aI 1)) <| (Ok.deep (y105_1 (Y := O) (P := O + 38) (A := O + 49) (V := O + 73) (T := O + 74) (K := O + 100) (H := O + 102) (X := O + 346) (x1 := k) hWn48.1.y hWn48.1.w hWn48.1.p hWn48.1.s hWn48.2.1.p hWn48.2.1.s hQ hV (by omega) hWn48.2.1.l) (by omega)).mono (fun o9 g30q M30q p30q => ?_)
      obtain ⟨rfl, eg30q, em30q⟩ := p30q
      rw [eg30q, em30q]
      refine kt_v (pc' := 306) rfl <| ok_aload (pc' := 308) i213_306 rfl rfl <| ok_iload (pc' := 310) i213_308 rfl rfl <| ?_
      have b50 := hA47.2.1
      refine ok_iaload (v := (s ((414 + (8 * k)) + 1))) (pc' := 311) i213_310 (hA47.1) (by decide) (rfl) (by omega) (((hA47.2.2 1 (by decide) (by decide)).trans (by rw [upI_ne (by decide), upI_ne (by decide), upI_ne (by decide), upI_ne (by decide), upI_ne (by decide), upI_ne (by decide), upI_eq]))) rfl <| ok_ceqs (pc1 := 316) (pc2 := 314) i213_311 rfl rfl <| ok_iinc (pc' := 319) (v := 2) (ls' := [aR O, aR 101, aI k, aR (A.D k), aR xr2, aI 2]) i213_316 rfl rfl rfl rfl <| ok_goto (pc' := 292) i213_319 rfl <| ok_iload (pc' := 294) i213_292 rfl rfl <| ok_bipush (v := 8) (pc' := 296) i213_294 rfl rfl <| ok_kc0 (pc1 := 322) (pc2 := 299) i213_296 (by decide) rfl rfl <| ok_aloadn (pc' := 300) i213_299 rfl rfl <| ?_
      refine ok_iloadn (pc' := 301) i213_300 rfl rfl <| ok_iload (pc' := 303) i213_301 rfl rfl <| ?_
      refine ok_cc i213_303 rfl (cl_v o213 m13_44 na105 rfl rfl (bt rfl) (bt rfl) rfl (by rw [(ShYard_k0 hWn48.1.y), o105])) ln105 (pd105 (aR O) (aI k) (aI 2)) <| (Ok.deep (y105_2 (Y := O) (P := O + 38) (A := O + 49) (V := O + 73) (T := O + 74) (K := O + 100) (H := O + 102) (X := O + 346) (x1 := k) hWn48.1.y hWn48.1.w hWn48.1.p hWn48.1.s hWn48.2.1.p hWn48.2.1.s hQ hV (by omega) hWn48.2.1.l) (by omega)).mono (fun o9 g31q M31q p31q => ?_)
      obtain ⟨rfl, eg31q, em31q⟩ := p31q
      rw [eg31q, em31q]
      refine kt_v (pc' := 306) rfl <| ok_aload (pc' := 308) i213_306 rfl rfl <| ok_iload (pc' := 310) i213_308 rfl rfl <| ?_
      have b51 := hA47.2.1
      refine ok_iaload (v := (s ((414 + (8 * k)) + 2))) (pc' := 311) i213_310 (hA47.1) (by decide) (rfl) (by omega) (((hA47.2.2 2 (by decide) (by decide)).trans (by rw [upI_ne (by decide), upI_ne (by decide), upI_ne (by decide), upI_ne (by decide), upI_ne (by decide), upI_eq]))) rfl <| ok_ceqs (pc1 := 316) (pc2 := 314) i213_311 rfl rfl <| ok_iinc (pc' := 319) (v := 3) (ls' := [aR O, aR 101, aI k, aR (A.D k), aR xr2, aI 3]) i213_316 rfl rfl rfl rfl <| ok_goto (pc' := 292) i213_319 rfl <| ok_iload (pc' := 294) i213_292 rfl rfl <| ok_bipush (v := 8) (pc' := 296) i213_294 rfl rfl <| ok_kc0 (pc1 := 322) (pc2 := 299) i213_296 (by decide) rfl rfl <| ok_aloadn (pc' := 300) i213_299 rfl rfl <| ?_
      refine ok_iloadn (pc' := 301) i213_300 rfl rfl <| ok_iload (pc' := 303) i213_301 rfl rfl <| ?_
      refine ok_cc i213_303 rfl (cl_v o213 m13_44 na105 rfl rfl (bt rfl) (bt rfl) rfl (by rw [(ShYard_k0 hWn48.1.y), o105])) ln105 (pd105 (aR O) (aI k) (aI 3)) <| (Ok.deep (y105_3 (Y := O) (P := O + 38) (A := O + 49) (V := O + 73) (T := O + 74) (K := O + 100) (H := O + 102) (X := O + 346) (x1 := k) hWn48.1.y hWn48.1.w hWn48.1.p hWn48.1.s hWn48.2.1.p hWn48.2.1.s hQ hV (by omega) hWn48.2.1.l) (by omega)).mono (fun o9 g32q M32q p32q => ?_)
      obtain ⟨rfl, eg32q, em32q⟩ := p32q
      rw [eg32q, em32q]
      refine kt_v (pc' := 306) rfl <| ok_aload (pc' := 308) i213_306 rfl rfl <| ok_iload (pc' := 310) i213_308 rfl rfl <| ?_
      have b52 := hA47.2.1
      refine ok_iaload (v := (s ((414 + (8 * k)) + 3))) (pc' := 311) i213_310 (hA47.1) (by decide) (rfl) (by omega) (((hA47.2.2 3 (by decide) (by decide)).trans (by rw [upI_ne (by decide), upI_ne (by decide), upI_ne (by decide), upI_ne (by decide), upI_eq]))) rfl <| ok_ceqs (pc1 := 316) (pc2 := 314) i213_311 rfl rfl <| ok_iinc (pc' := 319) (v := 4) (ls' := [aR O, aR 101, aI k, aR (A.D k), aR xr2, aI 4]) i213_316 rfl rfl rfl rfl <| ok_goto (pc' := 292) i213_319 rfl <| ok_iload (pc' := 294) i213_292 rfl rfl <| ok_bipush (v := 8) (pc' := 296) i213_294 rfl rfl <| ok_kc0 (pc1 := 322) (pc2 := 299) i213_296 (by decide) rfl rfl <| ok_aloadn (pc' := 300) i213_299 rfl rfl <| ?_
      refine ok_iloadn (pc' := 301) i213_300 rfl rfl <| ok_iload (pc' := 303) i213_301 rfl rfl <| ?_
      refine ok_cc i213_303 rfl (cl_v o213 m13_44 na105 rfl rfl (bt rfl) (bt rfl) rfl (by rw [(ShYard_k0 hWn48.1.y), o105])) ln105 (pd105 (aR O) (aI k) (aI 4)) <| (Ok.deep (y105_4 (Y := O) (P := O + 38) (A := O + 49) (V := O + 73) (T := O + 74) (K := O + 100) (H := O + 102) (X := O + 346) (x1 := k) hWn48.1.y hWn48.1.w hWn48.1.p hWn48.1.s hWn48.2.1.p hWn48.2.1.s hQ hV (by omega) hWn48.2.1.l) (by omega)).mono (fun o9 g33q M33q p33q => ?_)
      obtain ⟨rfl, eg33q, em33q⟩ := p33q
      rw [eg33q, em33q]
      refine kt_v (pc' := 306) rfl <| ok_aload (pc' := 308) i213_306 rfl rfl <| ok_iload (pc' := 310) i213_308 rfl rfl <| ?_
      have b53 := hA47.2.1
      refine ok_iaload (v := (s ((414 + (8 * k)) + 4))) (pc' := 311) i213_310 (hA47.1) (by decide) (rfl) (by omega) (((hA47.2.2 4 (by decide) (by decide)).trans (by rw [upI_ne (by decide), upI_ne (by decide), upI_ne (by decide), upI_eq]))) rfl <| ok_ceqs (pc1 := 316) (pc2 := 314) i213_311 rfl rfl <| ok_iinc (pc' := 319) (v := 5) (ls' := [aR O, aR 101, aI k, aR (A.D k), aR xr2, aI 5]) i213_316 rfl rfl rfl rfl <| ok_goto (pc' := 292) i213_319 rfl <| ok_iload (pc' := 294) i213_292 rfl rfl <| ok_bipush (v := 8) (pc' := 296) i213_294 rfl rfl <| ok_kc0 (pc1 := 322) (pc2 := 299) i213_296 (by decide) rfl rfl <| ok_aloadn (pc' := 300) i213_299 rfl rfl <| ?_
      refine ok_iloadn (pc' := 301) i213_300 rfl rfl <| ok_iload (pc' := 303) i213_301 rfl rfl <| ?_
      refine ok_cc i213_303 rfl (cl_v o213 m13_44 na105 rfl rfl (bt rfl) (bt rfl) rfl (by rw [(ShYard_k0 hWn48.1.y), o105])) ln105 (pd105 (aR O) (aI k) (aI 5)) <| (Ok.deep (y105_5 (Y := O) (P := O + 38) (A := O + 49) (V := O + 73) (T := O + 74) (K := O + 100) (H := O + 102) (X := O + 346) (x1 := k) hWn48.1.y hWn48.1.w hWn48.1.p hWn48.1.s hWn48.2.1.p hWn48.2.1.s hQ hV (by omega) hWn48.2.1.l) (by omega)).mono (fun o9 g34q M34q p34q => ?_)
      obtain ⟨rfl, eg34q, em34q⟩ := p34q
      rw [eg34q, em34q]
      refine kt_v (pc' := 306) rfl <| ok_aload (pc' := 308) i213_306 rfl rfl <| ok_iload (pc' := 310) i213_308 rfl rfl <| ?_
      have b54 := hA47.2.1
      refine ok_iaload (v := (s ((414 + (8 * k)) + 5))) (pc' := 311) i213_310 (hA47.1) (by decide) (rfl) (by omega) (((hA47.2.2 5 (by decide) (by decide)).trans (by rw [upI_ne (by decide), upI_ne (by decide), upI_eq]))) rfl <| ok_ceqs (pc1 := 316) (pc2 := 314) i213_311 rfl rfl <| ok_iinc (pc' := 319) (v := 6) (ls' := [aR O, aR 101, aI k, aR (A.D k), aR xr2, aI 6]) i213_316 rfl rfl rfl rfl <| ok_goto (pc' := 292) i213_319 rfl <| ok_iload (pc' := 294) i213_292 rfl rfl <| ok_bipush (v := 8) (pc' := 296) i213_294 rfl rfl <| ok_kc0 (pc1 := 322) (pc2 := 299) i213_296 (by decide) rfl rfl <| ok_aloadn (pc' := 300) i213_299 rfl rfl <| ?_
      refine ok_iloadn (pc' := 301) i213_300 rfl rfl <| ok_iload (pc' := 303) i213_301 rfl rfl <| ?_
      refine ok_cc i213_303 rfl (cl_v o213 m13_44 na105 rfl rfl (bt rfl) (bt rfl) rfl (by rw [(ShYard_k0 hWn48.1.y), o105])) ln105 (pd105 (aR O) (aI k) (aI 6)) <| (Ok.deep (y105_6 (Y := O) (P := O + 38) (A := O + 49) (V := O + 73) (T := O + 74) (K := O + 100) (H := O + 102) (X := O + 346) (x1 := k) hWn48.1.y hWn48.1.w hWn48.1.p hWn48.1.s hWn48.2.1.p hWn48.2.1.s hQ hV (by omega) hWn48.2.1.l) (by omega)).mono (fun o9 g35q M35q p35q => ?_)
      obtain ⟨rfl, eg35q, em35q⟩ := p35q
      rw [eg35q, em35q]
      refine kt_v (pc' := 306) rfl <| ok_aload (pc' := 308) i213_306 rfl rfl <| ok_iload (pc' := 310) i213_308 rfl rfl <| ?_
      have b55 := hA47.2.1
      refine ok_iaload (v := (s ((414 + (8 * k)) + 6))) (pc' := 311) i213_310 (hA47.1) (by decide) (rfl) (by omega) (((hA47.2.2 6 (by decide) (by decide)).trans (by rw [upI_ne (by decide), upI_eq]))) rfl <| ok_ceqs (pc1 := 316) (pc2 := 314) i213_311 rfl rfl <| ok_iinc (pc' := 319) (v := 7) (ls' := [aR O, aR 101, aI k, aR (A.D k), aR xr2, aI 7]) i213_316 rfl rfl rfl rfl <| ok_goto (pc' := 292) i213_319 rfl <| ok_iload (pc' := 294) i213_292 rfl rfl <| ok_bipush (v := 8) (pc' := 296) i213_294 rfl rfl <| ok_kc0 (pc1 := 322) (pc2 := 299) i213_296 (by decide) rfl rfl <| ok_aloadn (pc' := 300) i213_299 rfl rfl <| ?_
      refine ok_iloadn (pc' := 301) i213_300 rfl rfl <| ok_iload (pc' := 303) i213_301 rfl rfl <| ?_
      refine ok_cc i213_303 rfl (cl_v o213 m13_44 na105 rfl rfl (bt rfl) (bt rfl) rfl (by rw [(ShYard_k0 hWn48.1.y), o105])) ln105 (pd105 (aR O) (aI k) (aI 7)) <| (Ok.deep (y105_7 (Y := O) (P := O + 38) (A := O + 49) (V := O + 73) (T := O + 74) (K := O + 100) (H := O + 102) (X := O + 346) (x1 := k) hWn48.1.y hWn48.1.w hWn48.1.p hWn48.1.s hWn48.2.1.p hWn48.2.1.s hQ hV (by omega) hWn48.2.1.l) (by omega)).mono (fun o9 g36q M36q p36q => ?_)
      obtain ⟨rfl, eg36q, em36q⟩ := p36q
      rw [eg36q, em36q]
      refine kt_v (pc' := 306) rfl <| ok_aload (pc' := 308) i213_306 rfl rfl <| ok_iload (pc' := 310) i213_308 rfl rfl <| ?_
      have b56 := hA47.2.1
      refine ok_iaload (v := 1) (pc' := 311) i213_310 (hA47.1) (by decide) (rfl) (by omega) (((hA47.2.2 7 (by decide) (by decide)).trans (by rw [upI_eq]))) rfl <| ?_
      refine ok_ceq (pc1 := 316) (pc2 := 314) i213_311 (by omega) rfl rfl (fun h57 => ?_) (fun h9 => by exfalso; omega)
      refine ok_iinc (pc' := 319) (v := 8) (ls' := [aR O, aR 101, aI k, aR (A.D k), aR xr2, aI 8]) i213_316 rfl rfl rfl rfl <| ok_goto (pc' := 292) i213_319 rfl <| ok_iload (pc' := 294) i213_292 rfl rfl <| ok_bipush (v := 8) (pc' := 296) i213_294 rfl rfl <| ok_kc1 (pc1 := 322) (pc2 := 299) i213_296 (by decide) rfl rfl <| ok_iinc (pc' := 325) (v := (k + 1)) (ls' := [aR O, aR 101, aI (k + 1), aR (A.D k), aR xr2, aI 8]) i213_322 rfl rfl rfl rfl <| ok_goto (pc' := 202) i213_325 rfl <| ?_
      exact ih (k + 1) _ _ _ (by omega) ⟨by omega, hYa47, hWn48, Fr.w (Fr.trans hfr e47) (by omega) (by omega), _, _, _, rfl, rfl, rfl, rfl⟩
/-- the yard and the object are alike -/
theorem t213 {g : AG} {M : AM} {O : Nat} {A : YA} {s q : Int → Int} {b : Int} (hY : Yd g M O A s q) (hW : CW g M O b q s) : Ok 12 213 0 [aR O, aR 101, aU, aU, aU, aU] [] g M (fun o g1 M1 => o = .inl (some (aI 1)) ∧ Fr FN 16 128 g M g1 M1 ∧ Yd g1 M1 O A s q ∧ CW g1 M1 O b q s) := by
  refine w213_0 (d := 0) hY hW <| w213_74 (d := 0) hY hW <| w213_104 (d := 0) hY hW (fun k w3 hw3 => ?_)
  refine ok_iconst (pc' := 201) i213_200 rfl <| ok_istoren (pc' := 202) (ls' := [aR O, aR 101, aI 0, w3, aU, aU]) i213_201 (bt rfl) rfl rfl <| ?_
  refine w213_202 (d := 0) (k0 := 0) hY hW hw3 (fun g1 M1 k w3 w4 w5 hw3 hw4 hw5 hY1 hW1 f1 => ?_)
  refine ok_iconst (pc' := 329) i213_328 rfl <| ok_istoren (pc' := 330) (ls' := [aR O, aR 101, aI 1, w3, w4, w5]) i213_329 (bt rfl) rfl rfl <| ?_
  exact w213_330 (d := 0) hY1 hW1 hw3 ⟨rfl, f1, hY1, hW1⟩
