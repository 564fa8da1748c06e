/-! THE FACE: changes (by program, wip/p60/gen) -/
theorem m0_305 : am_mlk 0 305 0 64 = true := by decide +kernel
theorem na64 : am_na 64 = 1 := by decide +kernel
theorem nl64 : am_nL 64 = 2 := by decide +kernel
theorem pd64 : ∀ a0 a1 : AV, am_pad 64 [a0, a1] = [a0, a1] := by intros; unfold am_pad; rw [nl64]; rfl
theorem ln64 : 2 ≤ am_nL 64 := by rw [nl64]; decide
theorem m0_316 : am_mlk 0 316 0 41 = true := by decide +kernel
theorem na41 : am_na 41 = 1 := by decide +kernel
theorem nl41 : am_nL 41 = 2 := by decide +kernel
theorem pd41 : ∀ a0 a1 : AV, am_pad 41 [a0, a1] = [a0, a1] := by intros; unfold am_pad; rw [nl41]; rfl
theorem ln41 : 2 ≤ am_nL 41 := by rw [nl41]; decide
theorem rt145 : am_rt 145 = some .int := by decide +kernel
theorem m0_324 : am_mlk 0 324 0 50 = true := by decide +kernel
theorem na50 : am_na 50 = 1 := by decide +kernel
theorem nl50 : am_nL 50 = 3 := by decide +kernel
theorem pd50 : ∀ a0 a1 : AV, am_pad 50 [a0, a1] = [a0, a1, aU] := by intros; unfold am_pad; rw [nl50]; rfl
theorem ln50 : 2 ≤ am_nL 50 := by rw [nl50]; decide
theorem rt147 : am_rt 147 = some .int := by decide +kernel
theorem o146 : am_oc 146 = 0 := by decide +kernel
theorem m0_319 : am_mlk 0 319 0 48 = true := by decide +kernel
theorem na48 : am_na 48 = 0 := by decide +kernel
theorem nl48 : am_nL 48 = 3 := by decide +kernel
theorem pd48 : ∀ a0 : AV, am_pad 48 [a0] = [a0, aU, aU] := by intros; unfold am_pad; rw [nl48]; rfl
theorem ln48 : 1 ≤ am_nL 48 := by rw [nl48]; decide
theorem rt146 : am_rt 146 = some .int := by decide +kernel
theorem m0_340 : am_mlk 0 340 0 49 = true := by decide +kernel
theorem rt150 : am_rt 150 = some .int := by decide +kernel
theorem m0_308 : am_mlk 0 308 0 44 = true := by decide +kernel
theorem rt143 : am_rt 143 = some .int := by decide +kernel
theorem m0_313 : am_mlk 0 313 0 43 = true := by decide +kernel
theorem rt144 : am_rt 144 = some .int := by decide +kernel
theorem m0_329 : am_mlk 0 329 0 16 = true := by decide +kernel
theorem m0_333 : am_mlk 0 333 0 51 = true := by decide +kernel
theorem na51 : am_na 51 = 1 := by decide +kernel
theorem nl51 : am_nL 51 = 5 := by decide +kernel
theorem pd51 : ∀ a0 a1 : AV, am_pad 51 [a0, a1] = [a0, a1, aU, aU, aU] := by intros; unfold am_pad; rw [nl51]; rfl
theorem ln51 : 2 ≤ am_nL 51 := by rw [nl51]; decide
theorem rt148 : am_rt 148 = some .int := by decide +kernel
theorem rt151 : am_rt 151 = some .int := by decide +kernel
theorem rt149 : am_rt 149 = some .int := by decide +kernel
theorem y145 {g : AG} {M : AM} {O : Nat} {q s : Int → Int} {b : Int} {x1 : Int} (hG : CG g O) (hM : CM M O b q s) (hx : 0 ≤ x1 ∧ x1 < 4) (hb : b + 6 ≤ 1000000) : Ok 5 145 0 [aR O, aI x1] [] g M (Rt (some (aI (fulN q s x1))) g (fun M9 => CM M9 O (b) q (fulS q s x1) ∧ Wr O 348 M M9)) := by
  have hV := hM.v
  have hQ := V_q hV
  have y3 := V_3 hV
  have y4 := V_4 hV
  have y5 := V_5 hV
  have yq0 := Q_0 hQ
  have yq1 := Q_1 hQ
  refine ok_aloadn (pc' := 1) i145_0 rfl rfl <| ok_cc i145_1 rfl (cl_v o145 m0_132 na99 rfl rfl (bt rfl) (bt rfl) rfl (by rw [ShYard_k0 hG.y, o99])) ln99 (pd99 (aR O)) <| ok_aloadn (pc' := 1) i99_0 rfl rfl <| ok_getfi (v := 1) (pc' := 4) i99_1 o99 gi0_268 (ShYard_k0 hG.y) (hM.l) rfl <| ok_kz1 (pc1 := 18) (pc2 := 7) i99_4 (by decide) rfl rfl <| ok_vret i99_18 rt99 <| kt_0 (pc' := 4) rfl <| ok_iloadn (pc' := 5) i145_4 rfl rfl <| ?_
  refine ok_iconst (pc' := 6) i145_5 rfl <| ok_iconst (pc' := 7) i145_6 rfl <| ok_cc i145_7 rfl (cl_s o145 m0_172 na104 rfl rfl (bt rfl) (bt rfl) rfl) ln104 (pd104 (aI x1) (aI 0) (aI 3)) <| ok_iloadn (pc' := 1) i104_0 rfl rfl <| ok_iloadn (pc' := 2) i104_1 rfl rfl <| ?_
  refine ok_clt (pc1 := 10) (pc2 := 5) i104_2 (by omega) rfl rfl (fun h9 => by exfalso; omega) (fun h1 => ?_)
  refine ok_iloadn (pc' := 6) i104_5 rfl rfl <| ok_iloadn (pc' := 7) i104_6 rfl rfl <| ?_
  refine ok_cle (pc1 := 21) (pc2 := 10) i104_7 (by omega) rfl rfl (fun h2 => ?_) (fun h9 => by exfalso; omega)
  refine ok_vret i104_21 rt104 <| kt_0 (pc' := 10) rfl <| ok_aloadn (pc' := 11) i145_10 rfl rfl <| ok_getfr (r := (O + 102)) (pc' := 14) i145_11 o145 gr0_71 (ShYard_k0 hG.y) (ShYard_r12 hG.y) rfl <| ok_aloadn (pc' := 15) i145_14 rfl rfl <| ok_getfr (r := (O + 49)) (pc' := 18) i145_15 o145 gr0_39 (ShYard_k0 hG.y) (ShYard_r8 hG.y) rfl <| ?_
  refine ok_cc i145_18 rfl (cl_v o145 m0_305 na64 rfl rfl (bt rfl) (bt rfl) rfl (by rw [ShHist_k0 hG.h, o64])) ln64 (pd64 (aR (O + 102)) (aR (O + 49))) <| (Ok.deep (ck64 hG hM) (by omega)).mono (fun o9 g1 M1 p1 => ?_)
  obtain ⟨rfl, eg1, hM1, hW1⟩ := p1
  rw [eg1]
  refine kt_0 (pc' := 21) rfl <| ok_aloadn (pc' := 22) i145_21 rfl rfl <| ok_getfr (r := (O + 73)) (pc' := 25) i145_22 o145 gr0_48 (ShYard_k0 hG.y) (ShYard_r9 hG.y) rfl <| ok_iloadn (pc' := 26) i145_25 rfl rfl <| ?_
  refine ok_cc i145_26 rfl (cl_v o145 m0_316 na41 rfl rfl (bt rfl) (bt rfl) rfl (by rw [ShWorks_k0 hG.w, o41])) ln41 (pd41 (aR (O + 73)) (aI x1)) <| (Ok.deep (t41 (x1 := x1) hG.w hG.p hG.s hM1.p hM1.s hQ hV hx hb (by omega)) (by omega)).mono (fun o9 g2 M2 p2 => ?_)
  obtain ⟨rfl, eg2, hR2, hW2⟩ := p2
  rw [eg2]
  refine kt_v (pc' := 29) rfl <| ok_ireti i145_29 rt145 <| ?_
  have hz := CM.wk (b' := b) hM1 hR2 (ful_aft hV x1).1 hW2
  exact ⟨rfl, rfl, hz.1, hW1.trans hz.2⟩
theorem y147 {g : AG} {M : AM} {O : Nat} {q s : Int → Int} {b : Int} {x1 : Int} (hG : CG g O) (hM : CM M O b q s) (hx : 0 ≤ x1 ∧ x1 < q 0) (hx3 : s 3 < 40) : Ok 2 147 0 [aR O, aI x1] [] g M (Rt (some (aI (s 3))) g (fun M9 => CM M9 O (b) q (addT (upI s 6 (s 6 + ((q (2 + x1)) * (q (6 + x1))))) x1 (q (2 + x1))) ∧ Wr O 348 M M9)) := by
  have hV := hM.v
  have hQ := V_q hV
  have y3 := V_3 hV
  have y4 := V_4 hV
  have y5 := V_5 hV
  have yq0 := Q_0 hQ
  have yq1 := Q_1 hQ
  refine ok_aloadn (pc' := 1) i147_0 rfl rfl <| ok_cc i147_1 rfl (cl_v o147 m0_132 na99 rfl rfl (bt rfl) (bt rfl) rfl (by rw [ShYard_k0 hG.y, o99])) ln99 (pd99 (aR O)) <| ok_aloadn (pc' := 1) i99_0 rfl rfl <| ok_getfi (v := 1) (pc' := 4) i99_1 o99 gi0_268 (ShYard_k0 hG.y) (hM.l) rfl <| ok_kz1 (pc1 := 18) (pc2 := 7) i99_4 (by decide) rfl rfl <| ok_vret i99_18 rt99 <| kt_0 (pc' := 4) rfl <| ok_aloadn (pc' := 5) i147_4 rfl rfl <| ?_
  refine ok_iloadn (pc' := 6) i147_5 rfl rfl <| ok_cc i147_6 rfl (cl_v o147 m0_158 na101 rfl rfl (bt rfl) (bt rfl) rfl (by rw [ShYard_k0 hG.y, o101])) ln101 (pd101 (aR O) (aI x1)) <| ok_iloadn (pc' := 1) i101_0 rfl rfl <| ?_
  refine ok_zlt (pc1 := 15) (pc2 := 4) i101_1 (by omega) rfl rfl (fun h9 => by exfalso; omega) (fun h1 => ?_)
  refine ok_iloadn (pc' := 5) i101_4 rfl rfl <| ok_aloadn (pc' := 6) i101_5 rfl rfl <| ok_getfr (r := (O + 38)) (pc' := 9) i101_6 o101 gr0_32 (ShYard_k0 hG.y) (ShYard_r7 hG.y) rfl <| ok_getfi (v := (q 0)) (pc' := 12) i101_9 o101 gi0_135 (ShPlan_k0 hG.p) (hM.p.1) rfl <| ?_
  refine ok_clt (pc1 := 26) (pc2 := 15) i101_12 (by omega) rfl rfl (fun h2 => ?_) (fun h9 => by exfalso; omega)
  refine ok_vret i101_26 rt101 <| kt_0 (pc' := 9) rfl <| ok_aloadn (pc' := 10) i147_9 rfl rfl <| ok_getfr (r := (O + 49)) (pc' := 13) i147_10 o147 gr0_39 (ShYard_k0 hG.y) (ShYard_r8 hG.y) rfl <| ok_getfi (v := (s 3)) (pc' := 16) i147_13 o147 gi0_129 (ShState_k0 hG.s) (hM.s.2.1) rfl <| ok_bipush (v := 40) (pc' := 18) i147_16 rfl rfl <| ?_
  refine ok_clt (pc1 := 32) (pc2 := 21) i147_18 (by omega) rfl rfl (fun h3 => ?_) (fun h9 => by exfalso; omega)
  refine ok_aloadn (pc' := 33) i147_32 rfl rfl <| ok_getfr (r := (O + 102)) (pc' := 36) i147_33 o147 gr0_71 (ShYard_k0 hG.y) (ShYard_r12 hG.y) rfl <| ok_aloadn (pc' := 37) i147_36 rfl rfl <| ok_getfr (r := (O + 49)) (pc' := 40) i147_37 o147 gr0_39 (ShYard_k0 hG.y) (ShYard_r8 hG.y) rfl <| ?_
  refine ok_cc i147_40 rfl (cl_v o147 m0_305 na64 rfl rfl (bt rfl) (bt rfl) rfl (by rw [ShHist_k0 hG.h, o64])) ln64 (pd64 (aR (O + 102)) (aR (O + 49))) <| (Ok.deep (ck64 hG hM) (by omega)).mono (fun o9 g1 M1 p1 => ?_)
  obtain ⟨rfl, eg1, hM1, hW1⟩ := p1
  rw [eg1]
  refine kt_0 (pc' := 43) rfl <| ok_aloadn (pc' := 44) i147_43 rfl rfl <| ok_getfr (r := (O + 73)) (pc' := 47) i147_44 o147 gr0_48 (ShYard_k0 hG.y) (ShYard_r9 hG.y) rfl <| ok_iloadn (pc' := 48) i147_47 rfl rfl <| ?_
  refine ok_cc i147_48 rfl (cl_v o147 m0_324 na50 rfl rfl (bt rfl) (bt rfl) rfl (by rw [ShWorks_k0 hG.w, o50])) ln50 (pd50 (aR (O + 73)) (aI x1)) <| (Ok.deep (t50 (x1 := x1) hG.w hG.p hG.s hM1.p hM1.s hQ hV hx (by omega) (by omega)) (by omega)).mono (fun o9 g2 M2 p2 => ?_)
  obtain ⟨rfl, eg2, hR2, hW2⟩ := p2
  rw [eg2]
  refine kt_v (pc' := 51) rfl <| ok_ireti i147_51 rt147 <| ?_
  have hz := CM.wk (b' := b) hM1 hR2 (V_add (V_acc hV ⟨by omega, by omega⟩) (by rw [upI_ne (by omega)]; omega) hx (Q_2 hQ hx.1 hx.2)) hW2
  exact ⟨rfl, rfl, hz.1, hW1.trans hz.2⟩
theorem y146 {g : AG} {M : AM} {O : Nat} {q s : Int → Int} {b : Int} (hG : CG g O) (hM : CM M O b q s) (hb : b + 1 ≤ 1000000) : Ok 3 146 0 [aR O] [] g M (Rt (some (aI (endN q s))) g (fun M9 => CM M9 O (b + 1) q (endS q s) ∧ Wr O 348 M M9)) := by
  have hV := hM.v
  have hQ := V_q hV
  have y3 := V_3 hV
  have y4 := V_4 hV
  have y5 := V_5 hV
  have yq0 := Q_0 hQ
  have yq1 := Q_1 hQ
  refine ok_aloadn (pc' := 1) i146_0 rfl rfl <| ok_cc i146_1 rfl (cl_v o146 m0_132 na99 rfl rfl (bt rfl) (bt rfl) rfl (by rw [ShYard_k0 hG.y, o99])) ln99 (pd99 (aR O)) <| ok_aloadn (pc' := 1) i99_0 rfl rfl <| ok_getfi (v := 1) (pc' := 4) i99_1 o99 gi0_268 (ShYard_k0 hG.y) (hM.l) rfl <| ok_kz1 (pc1 := 18) (pc2 := 7) i99_4 (by decide) rfl rfl <| ok_vret i99_18 rt99 <| kt_0 (pc' := 4) rfl <| ok_aloadn (pc' := 5) i146_4 rfl rfl <| ?_
  refine ok_getfr (r := (O + 102)) (pc' := 8) i146_5 o146 gr0_71 (ShYard_k0 hG.y) (ShYard_r12 hG.y) rfl <| ok_aloadn (pc' := 9) i146_8 rfl rfl <| ok_getfr (r := (O + 49)) (pc' := 12) i146_9 o146 gr0_39 (ShYard_k0 hG.y) (ShYard_r8 hG.y) rfl <| ?_
  refine ok_cc i146_12 rfl (cl_v o146 m0_305 na64 rfl rfl (bt rfl) (bt rfl) rfl (by rw [ShHist_k0 hG.h, o64])) ln64 (pd64 (aR (O + 102)) (aR (O + 49))) <| (Ok.deep (ck64 hG hM) (by omega)).mono (fun o9 g1 M1 p1 => ?_)
  obtain ⟨rfl, eg1, hM1, hW1⟩ := p1
  rw [eg1]
  refine kt_0 (pc' := 15) rfl <| ok_aloadn (pc' := 16) i146_15 rfl rfl <| ok_getfr (r := (O + 73)) (pc' := 19) i146_16 o146 gr0_48 (ShYard_k0 hG.y) (ShYard_r9 hG.y) rfl <| ?_
  refine ok_cc i146_19 rfl (cl_v o146 m0_319 na48 rfl rfl (bt rfl) (bt rfl) rfl (by rw [ShWorks_k0 hG.w, o48])) ln48 (pd48 (aR (O + 73))) <| (Ok.deep (t48 hG.w hG.p hG.s hM1.p hM1.s hQ hV (by omega)) (by omega)).mono (fun o9 g2 M2 p2 => ?_)
  obtain ⟨rfl, eg2, hR2, hW2⟩ := p2
  rw [eg2]
  refine kt_v (pc' := 22) rfl <| ok_ireti i146_22 rt146 <| ?_
  have hz := CM.wk (b' := b + 1) hM1 hR2 (end_aft hV hb).1 hW2
  exact ⟨rfl, rfl, hz.1, hW1.trans hz.2⟩
theorem y150 {g : AG} {M : AM} {O : Nat} {q s : Int → Int} {b : Int} {x1 : Int} (hG : CG g O) (hM : CM M O b q s) (hx : 0 ≤ x1 ∧ x1 < s 3) (hs : s (174 + x1) = 0) : Ok 2 150 0 [aR O, aI x1] [] g M (Rt (some (aI (s (94 + x1)))) g (fun M9 => CM M9 O (b) q (scrA q s x1) ∧ Wr O 348 M M9)) := by
  have hV := hM.v
  have hQ := V_q hV
  have y3 := V_3 hV
  have y4 := V_4 hV
  have y5 := V_5 hV
  have yq0 := Q_0 hQ
  have yq1 := Q_1 hQ
  refine ok_aloadn (pc' := 1) i150_0 rfl rfl <| ok_cc i150_1 rfl (cl_v o150 m0_132 na99 rfl rfl (bt rfl) (bt rfl) rfl (by rw [ShYard_k0 hG.y, o99])) ln99 (pd99 (aR O)) <| ok_aloadn (pc' := 1) i99_0 rfl rfl <| ok_getfi (v := 1) (pc' := 4) i99_1 o99 gi0_268 (ShYard_k0 hG.y) (hM.l) rfl <| ok_kz1 (pc1 := 18) (pc2 := 7) i99_4 (by decide) rfl rfl <| ok_vret i99_18 rt99 <| kt_0 (pc' := 4) rfl <| ok_aloadn (pc' := 5) i150_4 rfl rfl <| ?_
  refine ok_iloadn (pc' := 6) i150_5 rfl rfl <| ok_cc i150_6 rfl (cl_v o150 m0_169 na103 rfl rfl (bt rfl) (bt rfl) rfl (by rw [ShYard_k0 hG.y, o103])) ln103 (pd103 (aR O) (aI x1)) <| ok_iloadn (pc' := 1) i103_0 rfl rfl <| ?_
  refine ok_zlt (pc1 := 15) (pc2 := 4) i103_1 (by omega) rfl rfl (fun h9 => by exfalso; omega) (fun h1 => ?_)
  refine ok_iloadn (pc' := 5) i103_4 rfl rfl <| ok_aloadn (pc' := 6) i103_5 rfl rfl <| ok_getfr (r := (O + 49)) (pc' := 9) i103_6 o103 gr0_39 (ShYard_k0 hG.y) (ShYard_r8 hG.y) rfl <| ok_getfi (v := (s 3)) (pc' := 12) i103_9 o103 gi0_129 (ShState_k0 hG.s) (hM.s.2.1) rfl <| ?_
  refine ok_clt (pc1 := 26) (pc2 := 15) i103_12 (by omega) rfl rfl (fun h2 => ?_) (fun h9 => by exfalso; omega)
  refine ok_vret i103_26 rt103 <| kt_0 (pc' := 9) rfl <| ok_aloadn (pc' := 10) i150_9 rfl rfl <| ok_getfr (r := (O + 49)) (pc' := 13) i150_10 o150 gr0_39 (ShYard_k0 hG.y) (ShYard_r8 hG.y) rfl <| ok_getfr (r := (O + 49 + 2)) (pc' := 16) i150_13 o150 gr0_176 (ShState_k0 hG.s) (ShState_r3 hG.s) rfl <| ok_iconst (pc' := 17) i150_16 rfl <| ok_aaload (r := (O + 49 + 5)) (pc' := 18) i150_17 (ShState_k2 hG.s) (by decide) (ShState_l2 hG.s) (by decide) ((ShState_e2_2 hG.s)) rfl <| ok_iloadn (pc' := 19) i150_18 rfl rfl <| ?_
  have z3 : 0 ≤ s (174 + x1) ∧ s (174 + x1) ≤ 2 := V_d2 hV (by omega) (by omega)
  refine ok_iaload (v := (s (174 + x1))) (pc' := 20) i150_19 (ShState_k5 hG.s) (by decide) (ShState_l5 hG.s) (by omega) ((RepS_5 hM.s (i := x1) (by omega) (by omega))) rfl <| ?_
  refine ok_zeq (pc1 := 34) (pc2 := 23) i150_20 (by omega) rfl rfl (fun h4 => ?_) (fun h9 => by exfalso; omega)
  refine ok_aloadn (pc' := 35) i150_34 rfl rfl <| ok_getfr (r := (O + 102)) (pc' := 38) i150_35 o150 gr0_71 (ShYard_k0 hG.y) (ShYard_r12 hG.y) rfl <| ok_aloadn (pc' := 39) i150_38 rfl rfl <| ok_getfr (r := (O + 49)) (pc' := 42) i150_39 o150 gr0_39 (ShYard_k0 hG.y) (ShYard_r8 hG.y) rfl <| ?_
  refine ok_cc i150_42 rfl (cl_v o150 m0_305 na64 rfl rfl (bt rfl) (bt rfl) rfl (by rw [ShHist_k0 hG.h, o64])) ln64 (pd64 (aR (O + 102)) (aR (O + 49))) <| (Ok.deep (ck64 hG hM) (by omega)).mono (fun o9 g1 M1 p1 => ?_)
  obtain ⟨rfl, eg1, hM1, hW1⟩ := p1
  rw [eg1]
  refine kt_0 (pc' := 45) rfl <| ok_aloadn (pc' := 46) i150_45 rfl rfl <| ok_getfr (r := (O + 73)) (pc' := 49) i150_46 o150 gr0_48 (ShYard_k0 hG.y) (ShYard_r9 hG.y) rfl <| ok_iloadn (pc' := 50) i150_49 rfl rfl <| ?_
  refine ok_cc i150_50 rfl (cl_v o150 m0_340 na49 rfl rfl (bt rfl) (bt rfl) rfl (by rw [ShWorks_k0 hG.w, o49])) ln49 (pd49 (aR (O + 73)) (aI x1)) <| (Ok.deep (t49 (x1 := x1) hG.w hG.p hG.s hM1.p hM1.s hQ hV hx (by omega)) (by omega)).mono (fun o9 g2 M2 p2 => ?_)
  obtain ⟨rfl, eg2, hR2, hW2⟩ := p2
  rw [eg2]
  refine kt_v (pc' := 53) rfl <| ok_ireti i150_53 rt150 <| ?_
  have hz := CM.wk (b' := b) hM1 hR2 (V_scr hV hx) hW2
  exact ⟨rfl, rfl, hz.1, hW1.trans hz.2⟩
theorem y143 {g : AG} {M : AM} {O : Nat} {q s : Int → Int} {b : Int} {x1 x2 : Int} (hG : CG g O) (hM : CM M O b q s) (hx : 0 ≤ x1 ∧ x1 < s 3) (hx2 : 1 ≤ x2 ∧ x2 ≤ s (94 + x1)) (hl : 0 ≤ s (94 + x1) ∧ s (94 + x1) ≤ 200) (hb : b + 1 ≤ 1000000) (h19 : 0 ≤ s 1 ∧ s 1 ≤ 9) : Ok 2 143 0 [aR O, aI x1, aI x2] [] g M (Rt (some (aI (r218 s x2))) g (fun M9 => CM M9 O (b + 1) q (cutS q s x1 x2) ∧ Wr O 348 M M9)) := by
  have hV := hM.v
  have hQ := V_q hV
  have y3 := V_3 hV
  have y4 := V_4 hV
  have y5 := V_5 hV
  have yq0 := Q_0 hQ
  have yq1 := Q_1 hQ
  refine ok_aloadn (pc' := 1) i143_0 rfl rfl <| ok_cc i143_1 rfl (cl_v o143 m0_132 na99 rfl rfl (bt rfl) (bt rfl) rfl (by rw [ShYard_k0 hG.y, o99])) ln99 (pd99 (aR O)) <| ok_aloadn (pc' := 1) i99_0 rfl rfl <| ok_getfi (v := 1) (pc' := 4) i99_1 o99 gi0_268 (ShYard_k0 hG.y) (hM.l) rfl <| ok_kz1 (pc1 := 18) (pc2 := 7) i99_4 (by decide) rfl rfl <| ok_vret i99_18 rt99 <| kt_0 (pc' := 4) rfl <| ok_aloadn (pc' := 5) i143_4 rfl rfl <| ?_
  refine ok_iloadn (pc' := 6) i143_5 rfl rfl <| ok_cc i143_6 rfl (cl_v o143 m0_169 na103 rfl rfl (bt rfl) (bt rfl) rfl (by rw [ShYard_k0 hG.y, o103])) ln103 (pd103 (aR O) (aI x1)) <| ok_iloadn (pc' := 1) i103_0 rfl rfl <| ?_
  refine ok_zlt (pc1 := 15) (pc2 := 4) i103_1 (by omega) rfl rfl (fun h9 => by exfalso; omega) (fun h1 => ?_)
  refine ok_iloadn (pc' := 5) i103_4 rfl rfl <| ok_aloadn (pc' := 6) i103_5 rfl rfl <| ok_getfr (r := (O + 49)) (pc' := 9) i103_6 o103 gr0_39 (ShYard_k0 hG.y) (ShYard_r8 hG.y) rfl <| ok_getfi (v := (s 3)) (pc' := 12) i103_9 o103 gi0_129 (ShState_k0 hG.s) (hM.s.2.1) rfl <| ?_
  refine ok_clt (pc1 := 26) (pc2 := 15) i103_12 (by omega) rfl rfl (fun h2 => ?_) (fun h9 => by exfalso; omega)
  refine ok_vret i103_26 rt103 <| kt_0 (pc' := 9) rfl <| ok_iloadn (pc' := 10) i143_9 rfl rfl <| ok_cc i143_10 rfl (cl_s o143 m0_203 na113 rfl rfl (bt rfl) (bt rfl) rfl) ln113 (pd113 (aI x2)) <| ok_iloadn (pc' := 1) i113_0 rfl rfl <| ok_iconst (pc' := 2) i113_1 rfl <| ok_sipush (v := 200) (pc' := 5) i113_2 rfl rfl <| ok_cc i113_5 rfl (cl_s o113 m0_172 na104 rfl rfl (bt rfl) (bt rfl) rfl) ln104 (pd104 (aI x2) (aI 1) (aI 200)) <| ?_
  refine ok_iloadn (pc' := 1) i104_0 rfl rfl <| ok_iloadn (pc' := 2) i104_1 rfl rfl <| ?_
  refine ok_clt (pc1 := 10) (pc2 := 5) i104_2 (by omega) rfl rfl (fun h9 => by exfalso; omega) (fun h3 => ?_)
  refine ok_iloadn (pc' := 6) i104_5 rfl rfl <| ok_iloadn (pc' := 7) i104_6 rfl rfl <| ?_
  refine ok_cle (pc1 := 21) (pc2 := 10) i104_7 (by omega) rfl rfl (fun h4 => ?_) (fun h9 => by exfalso; omega)
  refine ok_vret i104_21 rt104 <| kt_0 (pc' := 8) rfl <| ok_vret i113_8 rt113 <| kt_0 (pc' := 13) rfl <| ok_aloadn (pc' := 14) i143_13 rfl rfl <| ok_getfr (r := (O + 73)) (pc' := 17) i143_14 o143 gr0_48 (ShYard_k0 hG.y) (ShYard_r9 hG.y) rfl <| ok_aloadn (pc' := 18) i143_17 rfl rfl <| ok_getfr (r := (O + 49)) (pc' := 21) i143_18 o143 gr0_39 (ShYard_k0 hG.y) (ShYard_r8 hG.y) rfl <| ?_
  refine ok_getfr (r := (O + 49 + 2)) (pc' := 24) i143_21 o143 gr0_176 (ShState_k0 hG.s) (ShState_r3 hG.s) rfl <| ok_iconst (pc' := 25) i143_24 rfl <| ok_aaload (r := (O + 49 + 4)) (pc' := 26) i143_25 (ShState_k2 hG.s) (by decide) (ShState_l2 hG.s) (by decide) ((ShState_e2_1 hG.s)) rfl <| ok_iloadn (pc' := 27) i143_26 rfl rfl <| ok_iaload (v := (s (94 + x1))) (pc' := 28) i143_27 (ShState_k4 hG.s) (by decide) (ShState_l4 hG.s) (by omega) ((RepS_4 hM.s (i := x1) (by omega) (by omega))) rfl <| ok_iloadn (pc' := 29) i143_28 rfl rfl <| ok_cc i143_29 rfl (cl_v o143 m0_213 na33 rfl rfl (bt rfl) (bt rfl) rfl (by rw [ShWorks_k0 hG.w, o33])) ln33 (pd33 (aR (O + 73)) (aI (s (94 + x1))) (aI x2)) <| ok_iloadn (pc' := 1) i33_0 rfl rfl <| ?_
  refine ok_iloadn (pc' := 2) i33_1 rfl rfl <| ?_
  refine ok_cle (pc1 := 9) (pc2 := 5) i33_2 (by omega) rfl rfl (fun h5 => ?_) (fun h9 => by exfalso; omega)
  refine ok_iconst (pc' := 10) i33_9 rfl <| ok_iloadn (pc' := 11) i33_10 rfl rfl <| ok_iloadn (pc' := 12) i33_11 rfl rfl <| ok_isub (v := ((s (94 + x1)) - x2)) (pc' := 13) i33_12 rfl rfl <| ok_aloadn (pc' := 14) i33_13 rfl rfl <| ok_getfr (r := (O + 49)) (pc' := 17) i33_14 o33 gr8_15 (ShWorks_k0 hG.w) (ShWorks_r1 hG.w) rfl <| ok_getfr (r := (O + 49 + 1)) (pc' := 20) i33_17 o33 gr8_31 (ShState_k0 hG.s) (ShState_r1 hG.s) rfl <| ok_iconst (pc' := 21) i33_20 rfl <| ?_
  refine ok_iaload (v := (s 1)) (pc' := 22) i33_21 (ShState_k1 hG.s) (by decide) (ShState_l1 hG.s) (by decide) ((RepS_1 hM.s (i := 0) (by omega) (by omega))) rfl <| ok_isub (v := (((s (94 + x1)) - x2) - (s 1))) (pc' := 23) i33_22 rfl rfl <| ok_max (v := (max 0 (((s (94 + x1)) - x2) - (s 1)))) (pc' := 26) i33_23 o33 m8_34 (by omega) (bt rfl) rfl rfl <| ?_
  have z6 : 0 ≤ (max 0 (((s (94 + x1)) - x2) - (s 1))) ∧ (((s (94 + x1)) - x2) - (s 1)) ≤ (max 0 (((s (94 + x1)) - x2) - (s 1))) := by omega
  have z7 : (max 0 (((s (94 + x1)) - x2) - (s 1))) ≤ 200 := by omega
  refine ok_ireti i33_26 rt33 <| kt_v (pc' := 32) rfl <| ok_iconst (pc' := 33) i143_32 rfl <| ?_
  refine ok_cne (pc1 := 47) (pc2 := 36) i143_33 (by omega) rfl rfl (fun h8 => ?_) (fun h9 => by exfalso; omega)
  refine ok_aloadn (pc' := 48) i143_47 rfl rfl <| ok_getfr (r := (O + 102)) (pc' := 51) i143_48 o143 gr0_71 (ShYard_k0 hG.y) (ShYard_r12 hG.y) rfl <| ok_aloadn (pc' := 52) i143_51 rfl rfl <| ok_getfr (r := (O + 49)) (pc' := 55) i143_52 o143 gr0_39 (ShYard_k0 hG.y) (ShYard_r8 hG.y) rfl <| ?_
  refine ok_cc i143_55 rfl (cl_v o143 m0_305 na64 rfl rfl (bt rfl) (bt rfl) rfl (by rw [ShHist_k0 hG.h, o64])) ln64 (pd64 (aR (O + 102)) (aR (O + 49))) <| (Ok.deep (ck64 hG hM) (by omega)).mono (fun o9 g1 M1 p1 => ?_)
  obtain ⟨rfl, eg1, hM1, hW1⟩ := p1
  rw [eg1]
  refine kt_0 (pc' := 58) rfl <| ok_aloadn (pc' := 59) i143_58 rfl rfl <| ok_getfr (r := (O + 73)) (pc' := 62) i143_59 o143 gr0_48 (ShYard_k0 hG.y) (ShYard_r9 hG.y) rfl <| ok_iloadn (pc' := 63) i143_62 rfl rfl <| ok_iloadn (pc' := 64) i143_63 rfl rfl <| ?_
  refine ok_cc i143_64 rfl (cl_v o143 m0_308 na44 rfl rfl (bt rfl) (bt rfl) rfl (by rw [ShWorks_k0 hG.w, o44])) ln44 (pd44 (aR (O + 73)) (aI x1) (aI x2)) <| (Ok.deep (t44 (x1 := x1) (x2 := x2) hG.w hG.p hG.s hM1.p hM1.s hQ hV hx hx2 (by omega)) (by omega)).mono (fun o9 g2 M2 p2 => ?_)
  obtain ⟨rfl, eg2, hR2, hW2⟩ := p2
  rw [eg2]
  refine kt_v (pc' := 67) rfl <| ok_ireti i143_67 rt143 <| ?_
  have hz := CM.wk (b' := b + 1) hM1 hR2 (V_cut hV hx hx2 ⟨by omega, hb⟩ (fun _ => by omega)) hW2
  exact ⟨rfl, rfl, hz.1, hW1.trans hz.2⟩
theorem V_patN {b : Int} {q s : Int → Int} {p r : Int} (hV : Val b q s) (hp : 0 ≤ p ∧ p < q 1) (hr : 0 ≤ r ∧ r < s 3) (h : r37 q s p r ≠ -1) (hb : b + 6 ≤ 1000000) : ∀ k : Nat, (k : Int) ≤ q (10 + p) → Val (b + k) q (itv (patF q p r) (s, 0) 0 k).1 ∧ itx (f37 q s p) (s (94 + r)) 0 k = .inl ((itv (patF q p r) (s, 0) 0 k).1 (94 + r)) ∧ (itv (patF q p r) (s, 0) 0 k).1 1 = s 1 ∧ (itv (patF q p r) (s, 0) 0 k).1 3 = s 3 := by
  have z10 := Q_10 (V_q hV) hp.1 hp.2
  intro k
  induction k with
  | zero => exact fun _ => ⟨by show Val (b + 0) q s; rw [Int.add_zero]; exact hV, rfl, rfl, rfl⟩
  | succ k ih =>
    intro hk
    obtain ⟨i1, i2, i3, i4⟩ := ih (by omega)
    have e : itv (patF q p r) (s, 0) 0 (k + 1) = patF q p r (0 + (k : Int)) (itv (patF q p r) (s, 0) 0 k) := rfl
    rw [show (0 : Int) + (k : Int) = k by omega] at e
    obtain ⟨a, ha⟩ : ∃ a : (Int → Int) × Int, a = itv (patF q p r) (s, 0) 0 k := ⟨_, rfl⟩
    rw [← ha] at i1 i2 i3 i4 e
    obtain ⟨t, c⟩ := a
    have hs := pat_step (s := s) (c := c) i1 hp hr i3 i4 (by omega) h (k := (k : Int)) ⟨by omega, by omega⟩ (by rw [Int.toNat_natCast]; exact i2)
    rw [e]
    rw [show ((k : Int) + 1).toNat = k + 1 by omega] at hs
    refine ⟨?_, hs.2.1, hs.2.2.1, hs.2.2.2.1⟩
    have h1 := hs.1
    rw [show b + ((k + 1 : Nat) : Int) = b + (k : Int) + 1 by omega]
    exact h1
theorem V_up {b b' : Int} {q s : Int → Int} (hV : Val b q s) (h : b ≤ b' ∧ b' ≤ 1000000) : Val b' q s := by
  have y0 := hV.2.1
  have yb := hV.1
  exact ⟨⟨by omega, h.2⟩, ⟨y0.1, by omega⟩, hV.2.2.1, hV.2.2.2.1, hV.2.2.2.2.1, hV.2.2.2.2.2.1, hV.2.2.2.2.2.2.1, hV.2.2.2.2.2.2.2.1, hV.2.2.2.2.2.2.2.2.1, fun l l0 l1 => ⟨(hV.2.2.2.2.2.2.2.2.2.1 l l0 l1).1, Int.le_trans (hV.2.2.2.2.2.2.2.2.2.1 l l0 l1).2 h.1⟩, V_q hV⟩
theorem V_patS {b : Int} {q s : Int → Int} {p r : Int} (hV : Val b q s) (hp : 0 ≤ p ∧ p < q 1) (hr : 0 ≤ r ∧ r < s 3) (h : r37 q s p r ≠ -1) (hb : b + 6 ≤ 1000000) : Val (b + 6) q (patS q s p r) := by
  have z10 := Q_10 (V_q hV) hp.1 hp.2
  exact V_up (V_patN hV hp hr h hb (q (10 + p)).toNat (by omega)).1 ⟨by omega, hb⟩
theorem y144 {g : AG} {M : AM} {O : Nat} {q s : Int → Int} {b : Int} {x1 x2 : Int} (hG : CG g O) (hM : CM M O b q s) (hx : 0 ≤ x1 ∧ x1 < q 1) (hx2 : 0 ≤ x2 ∧ x2 < s 3) (hf : (r37 q s x1 x2) ≠ (-1)) (hb : b + 6 ≤ 1000000) (hrg : -1 ≤ (r37 q s x1 x2) ∧ (r37 q s x1 x2) ≤ 200) : Ok 3 144 0 [aR O, aI x1, aI x2] [] g M (Rt (some (aI (patN q s x1 x2))) g (fun M9 => CM M9 O (b + 6) q (patS q s x1 x2) ∧ Wr O 348 M M9)) := by
  have hV := hM.v
  have hQ := V_q hV
  have y3 := V_3 hV
  have y4 := V_4 hV
  have y5 := V_5 hV
  have yq0 := Q_0 hQ
  have yq1 := Q_1 hQ
  refine ok_aloadn (pc' := 1) i144_0 rfl rfl <| ok_cc i144_1 rfl (cl_v o144 m0_132 na99 rfl rfl (bt rfl) (bt rfl) rfl (by rw [ShYard_k0 hG.y, o99])) ln99 (pd99 (aR O)) <| ok_aloadn (pc' := 1) i99_0 rfl rfl <| ok_getfi (v := 1) (pc' := 4) i99_1 o99 gi0_268 (ShYard_k0 hG.y) (hM.l) rfl <| ok_kz1 (pc1 := 18) (pc2 := 7) i99_4 (by decide) rfl rfl <| ok_vret i99_18 rt99 <| kt_0 (pc' := 4) rfl <| ok_aloadn (pc' := 5) i144_4 rfl rfl <| ?_
  refine ok_iloadn (pc' := 6) i144_5 rfl rfl <| ok_cc i144_6 rfl (cl_v o144 m0_186 na108 rfl rfl (bt rfl) (bt rfl) rfl (by rw [ShYard_k0 hG.y, o108])) ln108 (pd108 (aR O) (aI x1)) <| ok_iloadn (pc' := 1) i108_0 rfl rfl <| ?_
  refine ok_zlt (pc1 := 15) (pc2 := 4) i108_1 (by omega) rfl rfl (fun h9 => by exfalso; omega) (fun h1 => ?_)
  refine ok_iloadn (pc' := 5) i108_4 rfl rfl <| ok_aloadn (pc' := 6) i108_5 rfl rfl <| ok_getfr (r := (O + 38)) (pc' := 9) i108_6 o108 gr0_32 (ShYard_k0 hG.y) (ShYard_r7 hG.y) rfl <| ok_getfi (v := (q 1)) (pc' := 12) i108_9 o108 gi0_141 (ShPlan_k0 hG.p) (hM.p.2.1) rfl <| ?_
  refine ok_clt (pc1 := 26) (pc2 := 15) i108_12 (by omega) rfl rfl (fun h2 => ?_) (fun h9 => by exfalso; omega)
  refine ok_vret i108_26 rt108 <| kt_0 (pc' := 9) rfl <| ok_aloadn (pc' := 10) i144_9 rfl rfl <| ok_iloadn (pc' := 11) i144_10 rfl rfl <| ok_cc i144_11 rfl (cl_v o144 m0_169 na103 rfl rfl (bt rfl) (bt rfl) rfl (by rw [ShYard_k0 hG.y, o103])) ln103 (pd103 (aR O) (aI x2)) <| ok_iloadn (pc' := 1) i103_0 rfl rfl <| ?_
  refine ok_zlt (pc1 := 15) (pc2 := 4) i103_1 (by omega) rfl rfl (fun h9 => by exfalso; omega) (fun h3 => ?_)
  refine ok_iloadn (pc' := 5) i103_4 rfl rfl <| ok_aloadn (pc' := 6) i103_5 rfl rfl <| ok_getfr (r := (O + 49)) (pc' := 9) i103_6 o103 gr0_39 (ShYard_k0 hG.y) (ShYard_r8 hG.y) rfl <| ok_getfi (v := (s 3)) (pc' := 12) i103_9 o103 gi0_129 (ShState_k0 hG.s) (hM.s.2.1) rfl <| ?_
  refine ok_clt (pc1 := 26) (pc2 := 15) i103_12 (by omega) rfl rfl (fun h4 => ?_) (fun h9 => by exfalso; omega)
  refine ok_vret i103_26 rt103 <| kt_0 (pc' := 14) rfl <| ok_aloadn (pc' := 15) i144_14 rfl rfl <| ok_getfr (r := (O + 73)) (pc' := 18) i144_15 o144 gr0_48 (ShYard_k0 hG.y) (ShYard_r9 hG.y) rfl <| ok_iloadn (pc' := 19) i144_18 rfl rfl <| ok_iloadn (pc' := 20) i144_19 rfl rfl <| ?_
  refine ok_cc i144_20 rfl (cl_v o144 m0_229 na37 rfl rfl (bt rfl) (bt rfl) rfl (by rw [ShWorks_k0 hG.w, o37])) ln37 (pd37 (aR (O + 73)) (aI x1) (aI x2)) <| (Ok.deep (t37 (x1 := x1) (x2 := x2) hG.w hG.p hG.s hM.p hM.s hQ hV hx hx2) (by omega)).mono (fun o9 g3 M3 p3 => ?_)
  obtain ⟨rfl, eg3, em3⟩ := p3
  rw [eg3, em3]
  refine kt_v (pc' := 23) rfl <| ok_iconst (pc' := 24) i144_23 rfl <| ?_
  refine ok_cne (pc1 := 38) (pc2 := 27) i144_24 (by omega) rfl rfl (fun h5 => ?_) (fun h9 => by exfalso; omega)
  refine ok_aloadn (pc' := 39) i144_38 rfl rfl <| ok_getfr (r := (O + 102)) (pc' := 42) i144_39 o144 gr0_71 (ShYard_k0 hG.y) (ShYard_r12 hG.y) rfl <| ok_aloadn (pc' := 43) i144_42 rfl rfl <| ok_getfr (r := (O + 49)) (pc' := 46) i144_43 o144 gr0_39 (ShYard_k0 hG.y) (ShYard_r8 hG.y) rfl <| ?_
  refine ok_cc i144_46 rfl (cl_v o144 m0_305 na64 rfl rfl (bt rfl) (bt rfl) rfl (by rw [ShHist_k0 hG.h, o64])) ln64 (pd64 (aR (O + 102)) (aR (O + 49))) <| (Ok.deep (ck64 hG hM) (by omega)).mono (fun o9 g1 M1 p1 => ?_)
  obtain ⟨rfl, eg1, hM1, hW1⟩ := p1
  rw [eg1]
  refine kt_0 (pc' := 49) rfl <| ok_aloadn (pc' := 50) i144_49 rfl rfl <| ok_getfr (r := (O + 73)) (pc' := 53) i144_50 o144 gr0_48 (ShYard_k0 hG.y) (ShYard_r9 hG.y) rfl <| ok_iloadn (pc' := 54) i144_53 rfl rfl <| ok_iloadn (pc' := 55) i144_54 rfl rfl <| ?_
  refine ok_cc i144_55 rfl (cl_v o144 m0_313 na43 rfl rfl (bt rfl) (bt rfl) rfl (by rw [ShWorks_k0 hG.w, o43])) ln43 (pd43 (aR (O + 73)) (aI x1) (aI x2)) <| (Ok.deep (t43 (x1 := x1) (x2 := x2) hG.w hG.p hG.s hM1.p hM1.s hQ hV hx hx2 hf hb (by omega)) (by omega)).mono (fun o9 g2 M2 p2 => ?_)
  obtain ⟨rfl, eg2, hR2, hW2⟩ := p2
  rw [eg2]
  refine kt_v (pc' := 58) rfl <| ok_ireti i144_58 rt144 <| ?_
  have hz := CM.wk (b' := b + 6) hM1 hR2 (V_patS hV hx hx2 hf hb) hW2
  exact ⟨rfl, rfl, hz.1, hW1.trans hz.2⟩
theorem ord_414 {s : Int → Int} {l n v d : Int} : ordS s l n v d (414 + (8 * s 4)) = l := by
  unfold ordS
  rw [upI_ne (by omega), upI_ne (by omega), upI_ne (by omega), upI_ne (by omega), upI_ne (by omega), upI_ne (by omega), upI_ne (by omega), upI_ne (by omega), upI_eq]
theorem V_supS {b l o : Int} {q s : Int → Int} (hV : Val b q s) (ho : 0 ≤ o ∧ o < s 4) (hl : 0 ≤ l ∧ l ≤ 200) : 0 ≤ supM s o l ∧ Val b q (supS s o l) := by
  have z1 := V_s hV (i := l) hl.1 hl.2
  have z2 := V_o4 hV ho.1 ho.2
  have h0 : 0 ≤ supM s o l := by unfold supM; omega
  exact ⟨h0, (sup_aft hV ho hl (supM s o l).toNat (by omega)).1⟩
theorem y148 {g : AG} {M : AM} {O : Nat} {q s : Int → Int} {b : Int} {x1 x2 x3 x4 : Int} (hG : CG g O) (hM : CM M O b q s) (hx : 1 ≤ x1 ∧ x1 ≤ 200) (hx2 : 1 ≤ x2 ∧ x2 ≤ 9) (hx3 : 0 ≤ x3 ∧ x3 ≤ 99) (hx4 : 0 ≤ x4 ∧ x4 ≤ 999) (h4 : s 4 < 16) : Ok 2 148 0 [aR O, aI x1, aI x2, aI x3, aI x4, aU] [] g M (Rt (some (aI (s 4))) g (fun M9 => CM M9 O b q (supS (ordS s x1 x2 x3 x4) (s 4) x1) ∧ Wr O 348 M M9)) := by
  have hV := hM.v
  have hQ := V_q hV
  have y3 := V_3 hV
  have y4 := V_4 hV
  have y5 := V_5 hV
  have yq0 := Q_0 hQ
  have yq1 := Q_1 hQ
  have hVo := V_ord hV h4 hx hx2 hx3 hx4
  have e4 : ordS s x1 x2 x3 x4 4 = s 4 + 1 := upI_eq
  have e414 := ord_414 (s := s) (l := x1) (n := x2) (v := x3) (d := x4)
  obtain ⟨hsm, hVs⟩ := V_supS (l := x1) (o := s 4) hVo ⟨by omega, by omega⟩ ⟨by omega, by omega⟩
  refine ok_aloadn (pc' := 1) i148_0 rfl rfl <| ok_cc i148_1 rfl (cl_v o148 m0_132 na99 rfl rfl (bt rfl) (bt rfl) rfl (by rw [ShYard_k0 hG.y, o99])) ln99 (pd99 (aR O)) <| ok_aloadn (pc' := 1) i99_0 rfl rfl <| ok_getfi (v := 1) (pc' := 4) i99_1 o99 gi0_268 (ShYard_k0 hG.y) (hM.l) rfl <| ok_kz1 (pc1 := 18) (pc2 := 7) i99_4 (by decide) rfl rfl <| ok_vret i99_18 rt99 <| kt_0 (pc' := 4) rfl <| ok_aloadn (pc' := 5) i148_4 rfl rfl <| ?_
  refine ok_getfr (r := (O + 49)) (pc' := 8) i148_5 o148 gr0_39 (ShYard_k0 hG.y) (ShYard_r8 hG.y) rfl <| ok_getfi (v := (s 4)) (pc' := 11) i148_8 o148 gi0_138 (ShState_k0 hG.s) (hM.s.2.2.1) rfl <| ok_bipush (v := 16) (pc' := 13) i148_11 rfl rfl <| ?_
  refine ok_clt (pc1 := 27) (pc2 := 16) i148_13 (by omega) rfl rfl (fun h1 => ?_) (fun h9 => by exfalso; omega)
  refine ok_iloadn (pc' := 28) i148_27 rfl rfl <| ok_cc i148_28 rfl (cl_s o148 m0_203 na113 rfl rfl (bt rfl) (bt rfl) rfl) ln113 (pd113 (aI x1)) <| ok_iloadn (pc' := 1) i113_0 rfl rfl <| ok_iconst (pc' := 2) i113_1 rfl <| ok_sipush (v := 200) (pc' := 5) i113_2 rfl rfl <| ok_cc i113_5 rfl (cl_s o113 m0_172 na104 rfl rfl (bt rfl) (bt rfl) rfl) ln104 (pd104 (aI x1) (aI 1) (aI 200)) <| ok_iloadn (pc' := 1) i104_0 rfl rfl <| ok_iloadn (pc' := 2) i104_1 rfl rfl <| ?_
  refine ok_clt (pc1 := 10) (pc2 := 5) i104_2 (by omega) rfl rfl (fun h9 => by exfalso; omega) (fun h2 => ?_)
  refine ok_iloadn (pc' := 6) i104_5 rfl rfl <| ok_iloadn (pc' := 7) i104_6 rfl rfl <| ?_
  refine ok_cle (pc1 := 21) (pc2 := 10) i104_7 (by omega) rfl rfl (fun h3 => ?_) (fun h9 => by exfalso; omega)
  refine ok_vret i104_21 rt104 <| kt_0 (pc' := 8) rfl <| ok_vret i113_8 rt113 <| kt_0 (pc' := 31) rfl <| ok_iloadn (pc' := 32) i148_31 rfl rfl <| ok_iconst (pc' := 33) i148_32 rfl <| ok_bipush (v := 9) (pc' := 35) i148_33 rfl rfl <| ok_cc i148_35 rfl (cl_s o148 m0_172 na104 rfl rfl (bt rfl) (bt rfl) rfl) ln104 (pd104 (aI x2) (aI 1) (aI 9)) <| ?_
  refine ok_iloadn (pc' := 1) i104_0 rfl rfl <| ok_iloadn (pc' := 2) i104_1 rfl rfl <| ?_
  refine ok_clt (pc1 := 10) (pc2 := 5) i104_2 (by omega) rfl rfl (fun h9 => by exfalso; omega) (fun h4 => ?_)
  refine ok_iloadn (pc' := 6) i104_5 rfl rfl <| ok_iloadn (pc' := 7) i104_6 rfl rfl <| ?_
  refine ok_cle (pc1 := 21) (pc2 := 10) i104_7 (by omega) rfl rfl (fun h5 => ?_) (fun h9 => by exfalso; omega)
  refine ok_vret i104_21 rt104 <| kt_0 (pc' := 38) rfl <| ok_iloadn (pc' := 39) i148_38 rfl rfl <| ok_iconst (pc' := 40) i148_39 rfl <| ok_bipush (v := 99) (pc' := 42) i148_40 rfl rfl <| ok_cc i148_42 rfl (cl_s o148 m0_172 na104 rfl rfl (bt rfl) (bt rfl) rfl) ln104 (pd104 (aI x3) (aI 0) (aI 99)) <| ok_iloadn (pc' := 1) i104_0 rfl rfl <| ok_iloadn (pc' := 2) i104_1 rfl rfl <| ?_
  refine ok_clt (pc1 := 10) (pc2 := 5) i104_2 (by omega) rfl rfl (fun h9 => by exfalso; omega) (fun h6 => ?_)
  refine ok_iloadn (pc' := 6) i104_5 rfl rfl <| ok_iloadn (pc' := 7) i104_6 rfl rfl <| ?_
  refine ok_cle (pc1 := 21) (pc2 := 10) i104_7 (by omega) rfl rfl (fun h7 => ?_) (fun h9 => by exfalso; omega)
  refine ok_vret i104_21 rt104 <| kt_0 (pc' := 45) rfl <| ok_iload (pc' := 47) i148_45 rfl rfl <| ok_iconst (pc' := 48) i148_47 rfl <| ok_sipush (v := 999) (pc' := 51) i148_48 rfl rfl <| ok_cc i148_51 rfl (cl_s o148 m0_172 na104 rfl rfl (bt rfl) (bt rfl) rfl) ln104 (pd104 (aI x4) (aI 0) (aI 999)) <| ok_iloadn (pc' := 1) i104_0 rfl rfl <| ok_iloadn (pc' := 2) i104_1 rfl rfl <| ?_
  refine ok_clt (pc1 := 10) (pc2 := 5) i104_2 (by omega) rfl rfl (fun h9 => by exfalso; omega) (fun h8 => ?_)
  refine ok_iloadn (pc' := 6) i104_5 rfl rfl <| ok_iloadn (pc' := 7) i104_6 rfl rfl <| ?_
  refine ok_cle (pc1 := 21) (pc2 := 10) i104_7 (by omega) rfl rfl (fun h9 => ?_) (fun h9 => by exfalso; omega)
  refine ok_vret i104_21 rt104 <| kt_0 (pc' := 54) rfl <| ok_aloadn (pc' := 55) i148_54 rfl rfl <| ok_getfr (r := (O + 102)) (pc' := 58) i148_55 o148 gr0_71 (ShYard_k0 hG.y) (ShYard_r12 hG.y) rfl <| ok_aloadn (pc' := 59) i148_58 rfl rfl <| ok_getfr (r := (O + 49)) (pc' := 62) i148_59 o148 gr0_39 (ShYard_k0 hG.y) (ShYard_r8 hG.y) rfl <| ?_
  refine ok_cc i148_62 rfl (cl_v o148 m0_305 na64 rfl rfl (bt rfl) (bt rfl) rfl (by rw [ShHist_k0 hG.h, o64])) ln64 (pd64 (aR (O + 102)) (aR (O + 49))) <| (Ok.deep (ck64 hG hM) (by omega)).mono (fun o9 g1 M1 p1 => ?_)
  obtain ⟨rfl, eg1, hM1, hW1⟩ := p1
  rw [eg1]
  refine kt_0 (pc' := 65) rfl <| ok_aloadn (pc' := 66) i148_65 rfl rfl <| ok_getfr (r := (O + 49)) (pc' := 69) i148_66 o148 gr0_39 (ShYard_k0 hG.y) (ShYard_r8 hG.y) rfl <| ok_iloadn (pc' := 70) i148_69 rfl rfl <| ok_iloadn (pc' := 71) i148_70 rfl rfl <| ok_iloadn (pc' := 72) i148_71 rfl rfl <| ok_iload (pc' := 74) i148_72 rfl rfl <| ?_
  refine ok_cc i148_74 rfl (cl_v o148 m0_329 na16 rfl rfl (bt rfl) (bt rfl) rfl (by rw [ShState_k0 hG.s, o16])) ln16 (pd16 (aR (O + 49)) (aI x1) (aI x2) (aI x3) (aI x4)) <| (Ok.deep (t16 (x1 := x1) (x2 := x2) (x3 := x3) (x4 := x4) hG.s hM1.s hV hQ (by omega)) (by omega)).mono (fun o9 g3 M3 p3 => ?_)
  obtain ⟨rfl, eg3, hR3, hW3⟩ := p3
  rw [eg3]
  have hz1 := CM.wk (b' := b) hM1 hR3 hVo hW3
  refine kt_v (pc' := 77) rfl <| ok_istore (pc' := 79) (ls' := [aR O, aI x1, aI x2, aI x3, aI x4, aI (s 4)]) i148_77 (bt rfl) rfl rfl <| ok_aloadn (pc' := 80) i148_79 rfl rfl <| ok_getfr (r := (O + 73)) (pc' := 83) i148_80 o148 gr0_48 (ShYard_k0 hG.y) (ShYard_r9 hG.y) rfl <| ok_iload (pc' := 85) i148_83 rfl rfl <| ?_
  refine ok_cc i148_85 rfl (cl_v o148 m0_333 na51 rfl rfl (bt rfl) (bt rfl) rfl (by rw [ShWorks_k0 hG.w, o51])) ln51 (pd51 (aR (O + 73)) (aI (s 4))) <| (Ok.deep (t51 (x1 := s 4) hG.w hG.p hG.s hz1.1.p hz1.1.s hQ hVo ⟨by omega, by omega⟩ (by omega)) (by omega)).mono (fun o9 g2 M2 p2 => ?_)
  obtain ⟨rfl, eg2, hR2, hW2⟩ := p2
  rw [eg2]
  refine kt_0 (pc' := 88) rfl <| ok_iload (pc' := 90) i148_88 rfl rfl <| ok_ireti i148_90 rt148 <| ?_
  rw [e414, sup_eq ⟨by omega, by omega⟩ ⟨by omega, by omega⟩ hsm] at hR2
  have hz := CM.wk (b' := b) hz1.1 hR2 hVs hW2
  exact ⟨rfl, rfl, hz.1, (hW1.trans hz1.2).trans hz.2⟩
theorem V_12 {b v : Int} {q s : Int → Int} (hV : Val b q s) {k : Int} (hk : k = 1 ∧ 0 ≤ v ∧ v ≤ 9 ∨ k = 2 ∧ 1 ≤ v ∧ v ≤ 200) : Val b q (upI s k v) := by
  have y3 := V_3 hV
  have y4 := V_4 hV
  have e : ∀ j : Int, j ≠ k → upI s k v j = s j := fun j h => upI_ne h
  refine ⟨hV.1, by rw [e 0 (by omega)]; exact hV.2.1, ?_, ?_, by rw [e 3 (by omega)]; exact y3, by rw [e 4 (by omega)]; exact y4, by rw [e 5 (by omega)]; exact V_5 hV, ?_, ?_, ?_, V_q hV⟩
  · unfold upI; have := V_1 hV; split <;> omega
  · unfold upI; have := V_2 hV; split <;> omega
  · intro i h0 h1
    rw [e 3 (by omega)] at h1
    have hi := hV.2.2.2.2.2.2.2.1 i h0 h1
    unfold RodV at hi ⊢
    rw [e (14 + i) (by omega), e (94 + i) (by omega), e (174 + i) (by omega), e (334 + i) (by omega)]
    exact hi
  · intro o h0 h1
    rw [e 4 (by omega)] at h1
    have hi := hV.2.2.2.2.2.2.2.2.1 o h0 h1
    unfold OrdV at hi ⊢
    rw [e (414 + 8 * o) (by omega), e (414 + 8 * o + 1) (by omega), e (414 + 8 * o + 2) (by omega), e (414 + 8 * o + 3) (by omega), e (414 + 8 * o + 4) (by omega), e (414 + 8 * o + 5) (by omega), e (414 + 8 * o + 6) (by omega), e (414 + 8 * o + 7) (by omega)]
    exact hi
  · intro l h0 h1
    rw [e (542 + l) (by omega)]
    exact hV.2.2.2.2.2.2.2.2.2.1 l h0 h1
theorem y151_0 {g : AG} {M : AM} {O : Nat} {q s : Int → Int} {b : Int} {x2 : Int} (hG : CG g O) (hM : CM M O b q s) (hx : 0 ≤ x2 ∧ x2 ≤ 9) : Ok 2 151 0 [aR O, aI 0, aI x2, aU] [] g M (Rt (some (aI (s 1))) g (fun M9 => CM M9 O b q (upI s (1 + 0) x2) ∧ Wr O 348 M M9)) := by
  have hV := hM.v
  have hQ := V_q hV
  have y3 := V_3 hV
  have y4 := V_4 hV
  have y5 := V_5 hV
  have yq0 := Q_0 hQ
  have yq1 := Q_1 hQ
  have y1 := V_1 hV
  have y2 := V_2 hV
  refine ok_aloadn (pc' := 1) i151_0 rfl rfl <| ok_cc i151_1 rfl (cl_v o151 m0_132 na99 rfl rfl (bt rfl) (bt rfl) rfl (by rw [ShYard_k0 hG.y, o99])) ln99 (pd99 (aR O)) <| ok_aloadn (pc' := 1) i99_0 rfl rfl <| ok_getfi (v := 1) (pc' := 4) i99_1 o99 gi0_268 (ShYard_k0 hG.y) (hM.l) rfl <| ok_kz1 (pc1 := 18) (pc2 := 7) i99_4 (by decide) rfl rfl <| ok_vret i99_18 rt99 <| kt_0 (pc' := 4) rfl <| ok_iloadn (pc' := 5) i151_4 rfl rfl <| ?_
  refine ok_iconst (pc' := 6) i151_5 rfl <| ok_iconst (pc' := 7) i151_6 rfl <| ok_cc i151_7 rfl (cl_s o151 m0_172 na104 rfl rfl (bt rfl) (bt rfl) rfl) ln104 (pd104 (aI 0) (aI 0) (aI 1)) <| ok_iloadn (pc' := 1) i104_0 rfl rfl <| ok_iloadn (pc' := 2) i104_1 rfl rfl <| ok_kc0 (pc1 := 10) (pc2 := 5) i104_2 (by decide) rfl rfl <| ok_iloadn (pc' := 6) i104_5 rfl rfl <| ok_iloadn (pc' := 7) i104_6 rfl rfl <| ?_
  refine ok_kc1 (pc1 := 21) (pc2 := 10) i104_7 (by decide) rfl rfl <| ok_vret i104_21 rt104 <| kt_0 (pc' := 10) rfl <| ok_iloadn (pc' := 11) i151_10 rfl rfl <| ok_kz0 (pc1 := 24) (pc2 := 14) i151_11 (by decide) rfl rfl <| ok_iloadn (pc' := 15) i151_14 rfl rfl <| ok_iconst (pc' := 16) i151_15 rfl <| ok_bipush (v := 9) (pc' := 18) i151_16 rfl rfl <| ?_
  refine ok_cc i151_18 rfl (cl_s o151 m0_172 na104 rfl rfl (bt rfl) (bt rfl) rfl) ln104 (pd104 (aI x2) (aI 0) (aI 9)) <| ok_iloadn (pc' := 1) i104_0 rfl rfl <| ok_iloadn (pc' := 2) i104_1 rfl rfl <| ?_
  refine ok_clt (pc1 := 10) (pc2 := 5) i104_2 (by omega) rfl rfl (fun h9 => by exfalso; omega) (fun h1 => ?_)
  refine ok_iloadn (pc' := 6) i104_5 rfl rfl <| ok_iloadn (pc' := 7) i104_6 rfl rfl <| ?_
  refine ok_cle (pc1 := 21) (pc2 := 10) i104_7 (by omega) rfl rfl (fun h2 => ?_) (fun h9 => by exfalso; omega)
  refine ok_vret i104_21 rt104 <| kt_0 (pc' := 21) rfl <| ok_goto (pc' := 32) i151_21 rfl <| ok_aloadn (pc' := 33) i151_32 rfl rfl <| ok_getfr (r := (O + 102)) (pc' := 36) i151_33 o151 gr0_71 (ShYard_k0 hG.y) (ShYard_r12 hG.y) rfl <| ok_aloadn (pc' := 37) i151_36 rfl rfl <| ok_getfr (r := (O + 49)) (pc' := 40) i151_37 o151 gr0_39 (ShYard_k0 hG.y) (ShYard_r8 hG.y) rfl <| ?_
  refine ok_cc i151_40 rfl (cl_v o151 m0_305 na64 rfl rfl (bt rfl) (bt rfl) rfl (by rw [ShHist_k0 hG.h, o64])) ln64 (pd64 (aR (O + 102)) (aR (O + 49))) <| (Ok.deep (ck64 hG hM) (by omega)).mono (fun o9 g1 M1 p1 => ?_)
  obtain ⟨rfl, eg1, hM1, hW1⟩ := p1
  rw [eg1]
  refine kt_0 (pc' := 43) rfl <| ok_aloadn (pc' := 44) i151_43 rfl rfl <| ok_getfr (r := (O + 49)) (pc' := 47) i151_44 o151 gr0_39 (ShYard_k0 hG.y) (ShYard_r8 hG.y) rfl <| ok_getfr (r := (O + 49 + 1)) (pc' := 50) i151_47 o151 gr0_197 (ShState_k0 hG.s) (ShState_r1 hG.s) rfl <| ok_iloadn (pc' := 51) i151_50 rfl rfl <| ?_
  have z3 : 0 ≤ s 1 ∧ s 1 ≤ 9 := V_1 hV
  refine ok_iaload (v := (s 1)) (pc' := 52) i151_51 (ShState_k1 hG.s) (by decide) (ShState_l1 hG.s) (by decide) ((RepS_1 hM1.s (i := 0) (by omega) (by omega))) rfl <| ok_istoren (pc' := 53) (ls' := [aR O, aI 0, aI x2, aI (s 1)]) i151_52 (bt rfl) rfl rfl <| ok_aloadn (pc' := 54) i151_53 rfl rfl <| ok_getfr (r := (O + 49)) (pc' := 57) i151_54 o151 gr0_39 (ShYard_k0 hG.y) (ShYard_r8 hG.y) rfl <| ok_getfr (r := (O + 49 + 1)) (pc' := 60) i151_57 o151 gr0_197 (ShState_k0 hG.s) (ShState_r1 hG.s) rfl <| ok_iloadn (pc' := 61) i151_60 rfl rfl <| ok_iloadn (pc' := 62) i151_61 rfl rfl <| ok_iastore (pc' := 63) i151_62 (ShState_k1 hG.s) (ShState_l1 hG.s) (by decide) rfl <| ?_
  have hRL4 := RL_w1 (i := 0) (v := x2) (RL0 hM1.s) (V_lim hV) (by omega) (by omega)
  refine ok_iloadn (pc' := 64) i151_63 rfl rfl <| ok_ireti i151_64 rt151 <| ?_
  have hz := CM.wk (b' := b) (t := upI s (1 + 0) x2) hM1 hRL4.1 (V_12 hV (by omega)) (Wr.up Wr.rfl (by omega))
  exact ⟨rfl, rfl, hz.1, hW1.trans hz.2⟩
theorem y151_1 {g : AG} {M : AM} {O : Nat} {q s : Int → Int} {b : Int} {x2 : Int} (hG : CG g O) (hM : CM M O b q s) (hx : 1 ≤ x2 ∧ x2 ≤ 200) : Ok 2 151 0 [aR O, aI 1, aI x2, aU] [] g M (Rt (some (aI (s 2))) g (fun M9 => CM M9 O b q (upI s (1 + 1) x2) ∧ Wr O 348 M M9)) := by
  have hV := hM.v
  have hQ := V_q hV
  have y3 := V_3 hV
  have y4 := V_4 hV
  have y5 := V_5 hV
  have yq0 := Q_0 hQ
  have yq1 := Q_1 hQ
  have y1 := V_1 hV
  have y2 := V_2 hV
  refine ok_aloadn (pc' := 1) i151_0 rfl rfl <| ok_cc i151_1 rfl (cl_v o151 m0_132 na99 rfl rfl (bt rfl) (bt rfl) rfl (by rw [ShYard_k0 hG.y, o99])) ln99 (pd99 (aR O)) <| ok_aloadn (pc' := 1) i99_0 rfl rfl <| ok_getfi (v := 1) (pc' := 4) i99_1 o99 gi0_268 (ShYard_k0 hG.y) (hM.l) rfl <| ok_kz1 (pc1 := 18) (pc2 := 7) i99_4 (by decide) rfl rfl <| ok_vret i99_18 rt99 <| kt_0 (pc' := 4) rfl <| ok_iloadn (pc' := 5) i151_4 rfl rfl <| ?_
  refine ok_iconst (pc' := 6) i151_5 rfl <| ok_iconst (pc' := 7) i151_6 rfl <| ok_cc i151_7 rfl (cl_s o151 m0_172 na104 rfl rfl (bt rfl) (bt rfl) rfl) ln104 (pd104 (aI 1) (aI 0) (aI 1)) <| ok_iloadn (pc' := 1) i104_0 rfl rfl <| ok_iloadn (pc' := 2) i104_1 rfl rfl <| ok_kc0 (pc1 := 10) (pc2 := 5) i104_2 (by decide) rfl rfl <| ok_iloadn (pc' := 6) i104_5 rfl rfl <| ok_iloadn (pc' := 7) i104_6 rfl rfl <| ?_
  refine ok_kc1 (pc1 := 21) (pc2 := 10) i104_7 (by decide) rfl rfl <| ok_vret i104_21 rt104 <| kt_0 (pc' := 10) rfl <| ok_iloadn (pc' := 11) i151_10 rfl rfl <| ok_kz1 (pc1 := 24) (pc2 := 14) i151_11 (by decide) rfl rfl <| ok_iloadn (pc' := 25) i151_24 rfl rfl <| ok_iconst (pc' := 26) i151_25 rfl <| ok_sipush (v := 200) (pc' := 29) i151_26 rfl rfl <| ?_
  refine ok_cc i151_29 rfl (cl_s o151 m0_172 na104 rfl rfl (bt rfl) (bt rfl) rfl) ln104 (pd104 (aI x2) (aI 1) (aI 200)) <| ok_iloadn (pc' := 1) i104_0 rfl rfl <| ok_iloadn (pc' := 2) i104_1 rfl rfl <| ?_
  refine ok_clt (pc1 := 10) (pc2 := 5) i104_2 (by omega) rfl rfl (fun h9 => by exfalso; omega) (fun h1 => ?_)
  refine ok_iloadn (pc' := 6) i104_5 rfl rfl <| ok_iloadn (pc' := 7) i104_6 rfl rfl <| ?_
  refine ok_cle (pc1 := 21) (pc2 := 10) i104_7 (by omega) rfl rfl (fun h2 => ?_) (fun h9 => by exfalso; omega)
  refine ok_vret i104_21 rt104 <| kt_0 (pc' := 32) rfl <| ok_aloadn (pc' := 33) i151_32 rfl rfl <| ok_getfr (r := (O + 102)) (pc' := 36) i151_33 o151 gr0_71 (ShYard_k0 hG.y) (ShYard_r12 hG.y) rfl <| ok_aloadn (pc' := 37) i151_36 rfl rfl <| ok_getfr (r := (O + 49)) (pc' := 40) i151_37 o151 gr0_39 (ShYard_k0 hG.y) (ShYard_r8 hG.y) rfl <| ?_
  refine ok_cc i151_40 rfl (cl_v o151 m0_305 na64 rfl rfl (bt rfl) (bt rfl) rfl (by rw [ShHist_k0 hG.h, o64])) ln64 (pd64 (aR (O + 102)) (aR (O + 49))) <| (Ok.deep (ck64 hG hM) (by omega)).mono (fun o9 g1 M1 p1 => ?_)
  obtain ⟨rfl, eg1, hM1, hW1⟩ := p1
  rw [eg1]
  refine kt_0 (pc' := 43) rfl <| ok_aloadn (pc' := 44) i151_43 rfl rfl <| ok_getfr (r := (O + 49)) (pc' := 47) i151_44 o151 gr0_39 (ShYard_k0 hG.y) (ShYard_r8 hG.y) rfl <| ok_getfr (r := (O + 49 + 1)) (pc' := 50) i151_47 o151 gr0_197 (ShState_k0 hG.s) (ShState_r1 hG.s) rfl <| ok_iloadn (pc' := 51) i151_50 rfl rfl <| ?_
  have z3 : 1 ≤ s 2 ∧ s 2 ≤ 200 := V_2 hV
  refine ok_iaload (v := (s 2)) (pc' := 52) i151_51 (ShState_k1 hG.s) (by decide) (ShState_l1 hG.s) (by decide) ((RepS_1 hM1.s (i := 1) (by omega) (by omega))) rfl <| ok_istoren (pc' := 53) (ls' := [aR O, aI 1, aI x2, aI (s 2)]) i151_52 (bt rfl) rfl rfl <| ok_aloadn (pc' := 54) i151_53 rfl rfl <| ok_getfr (r := (O + 49)) (pc' := 57) i151_54 o151 gr0_39 (ShYard_k0 hG.y) (ShYard_r8 hG.y) rfl <| ok_getfr (r := (O + 49 + 1)) (pc' := 60) i151_57 o151 gr0_197 (ShState_k0 hG.s) (ShState_r1 hG.s) rfl <| ok_iloadn (pc' := 61) i151_60 rfl rfl <| ok_iloadn (pc' := 62) i151_61 rfl rfl <| ok_iastore (pc' := 63) i151_62 (ShState_k1 hG.s) (ShState_l1 hG.s) (by decide) rfl <| ?_
  have hRL4 := RL_w1 (i := 1) (v := x2) (RL0 hM1.s) (V_lim hV) (by omega) (by omega)
  refine ok_iloadn (pc' := 64) i151_63 rfl rfl <| ok_ireti i151_64 rt151 <| ?_
  have hz := CM.wk (b' := b) (t := upI s (1 + 1) x2) hM1 hRL4.1 (V_12 hV (by omega)) (Wr.up Wr.rfl (by omega))
  exact ⟨rfl, rfl, hz.1, hW1.trans hz.2⟩
theorem V_can {b : Int} {q s : Int → Int} (hV : Val b q s) {o : Int} (ho : 0 ≤ o ∧ o < s 4) : Val b q (upI (upI s ((414 + (8 * o)) + 4) 0) ((414 + (8 * o)) + 7) 1) := by
  have y3 := V_3 hV
  have y4 := V_4 hV
  have e : ∀ j : Int, j ≠ (414 + (8 * o)) + 4 → j ≠ (414 + (8 * o)) + 7 → upI (upI s ((414 + (8 * o)) + 4) 0) ((414 + (8 * o)) + 7) 1 j = s j := fun j h h' => by rw [upI_ne h', upI_ne h]
  refine ⟨hV.1, by rw [e 0 (by omega) (by omega)]; exact hV.2.1, by rw [e 1 (by omega) (by omega)]; exact V_1 hV, by rw [e 2 (by omega) (by omega)]; exact V_2 hV, by rw [e 3 (by omega) (by omega)]; exact y3, by rw [e 4 (by omega) (by omega)]; exact y4, by rw [e 5 (by omega) (by omega)]; exact V_5 hV, ?_, ?_, ?_, V_q hV⟩
  · intro i h0 h1
    rw [e 3 (by omega) (by omega)] at h1
    have hi := hV.2.2.2.2.2.2.2.1 i h0 h1
    unfold RodV at hi ⊢
    rw [e (14 + i) (by omega) (by omega), e (94 + i) (by omega) (by omega), e (174 + i) (by omega) (by omega), e (334 + i) (by omega) (by omega)]
    exact hi
  · intro k h0 h1
    rw [e 4 (by omega) (by omega)] at h1
    have hi := hV.2.2.2.2.2.2.2.2.1 k h0 h1
    unfold OrdV at hi ⊢
    rw [e (414 + 8 * k) (by omega) (by omega), e (414 + 8 * k + 1) (by omega) (by omega), e (414 + 8 * k + 2) (by omega) (by omega), e (414 + 8 * k + 3) (by omega) (by omega), e (414 + 8 * k + 5) (by omega) (by omega), e (414 + 8 * k + 6) (by omega) (by omega)]
    by_cases hk : k = o
    · subst hk
      rw [upI_ne (show 414 + 8 * k + 4 ≠ (414 + 8 * k) + 7 by omega), upI_eq, upI_eq]
      omega
    · rw [e (414 + 8 * k + 4) (by omega) (by omega), e (414 + 8 * k + 7) (by omega) (by omega)]
      exact hi
  · intro l h0 h1
    rw [e (542 + l) (by omega) (by omega)]
    exact hV.2.2.2.2.2.2.2.2.2.1 l h0 h1
theorem y149 {g : AG} {M : AM} {O : Nat} {q s : Int → Int} {b : Int} {x1 : Int} (hG : CG g O) (hM : CM M O b q s) (hx : 0 ≤ x1 ∧ x1 < s 4) (hnz : s ((414 + (8 * x1)) + 4) ≠ 0) : Ok 2 149 0 [aR O, aI x1, aU] [] g M (Rt (some (aI (s ((414 + (8 * x1)) + 4)))) g (fun M9 => CM M9 O b q (upI (upI s ((414 + (8 * x1)) + 4) 0) ((414 + (8 * x1)) + 7) 1) ∧ Wr O 348 M M9)) := by
  have hV := hM.v
  have hQ := V_q hV
  have y3 := V_3 hV
  have y4 := V_4 hV
  have y5 := V_5 hV
  have yq0 := Q_0 hQ
  have yq1 := Q_1 hQ
  have y1 := V_1 hV
  have y2 := V_2 hV
  refine ok_aloadn (pc' := 1) i149_0 rfl rfl <| ok_cc i149_1 rfl (cl_v o149 m0_132 na99 rfl rfl (bt rfl) (bt rfl) rfl (by rw [ShYard_k0 hG.y, o99])) ln99 (pd99 (aR O)) <| ok_aloadn (pc' := 1) i99_0 rfl rfl <| ok_getfi (v := 1) (pc' := 4) i99_1 o99 gi0_268 (ShYard_k0 hG.y) (hM.l) rfl <| ok_kz1 (pc1 := 18) (pc2 := 7) i99_4 (by decide) rfl rfl <| ok_vret i99_18 rt99 <| kt_0 (pc' := 4) rfl <| ok_aloadn (pc' := 5) i149_4 rfl rfl <| ?_
  refine ok_iloadn (pc' := 6) i149_5 rfl rfl <| ok_cc i149_6 rfl (cl_v o149 m0_180 na106 rfl rfl (bt rfl) (bt rfl) rfl (by rw [ShYard_k0 hG.y, o106])) ln106 (pd106 (aR O) (aI x1)) <| ok_iloadn (pc' := 1) i106_0 rfl rfl <| ?_
  refine ok_zlt (pc1 := 15) (pc2 := 4) i106_1 (by omega) rfl rfl (fun h9 => by exfalso; omega) (fun h1 => ?_)
  refine ok_iloadn (pc' := 5) i106_4 rfl rfl <| ok_aloadn (pc' := 6) i106_5 rfl rfl <| ok_getfr (r := (O + 49)) (pc' := 9) i106_6 o106 gr0_39 (ShYard_k0 hG.y) (ShYard_r8 hG.y) rfl <| ok_getfi (v := (s 4)) (pc' := 12) i106_9 o106 gi0_138 (ShState_k0 hG.s) (hM.s.2.2.1) rfl <| ?_
  refine ok_clt (pc1 := 26) (pc2 := 15) i106_12 (by omega) rfl rfl (fun h2 => ?_) (fun h9 => by exfalso; omega)
  refine ok_vret i106_26 rt106 <| kt_0 (pc' := 9) rfl <| ok_aloadn (pc' := 10) i149_9 rfl rfl <| ok_getfr (r := (O + 49)) (pc' := 13) i149_10 o149 gr0_39 (ShYard_k0 hG.y) (ShYard_r8 hG.y) rfl <| ok_getfr (r := (O + 49 + 8)) (pc' := 16) i149_13 o149 gr0_183 (ShState_k0 hG.s) (ShState_r5 hG.s) rfl <| ok_iconst (pc' := 17) i149_16 rfl <| ok_aaload (r := (O + 49 + 13)) (pc' := 18) i149_17 (ShState_k8 hG.s) (by decide) (ShState_l8 hG.s) (by decide) ((ShState_e8_4 hG.s)) rfl <| ok_iloadn (pc' := 19) i149_18 rfl rfl <| ?_
  have z3 : 0 ≤ s ((414 + (8 * x1)) + 4) ∧ s ((414 + (8 * x1)) + 4) ≤ 9 := V_o4 hV (by omega) (by omega)
  refine ok_iaload (v := (s ((414 + (8 * x1)) + 4))) (pc' := 20) i149_19 (ShState_k13 hG.s) (by decide) (ShState_l13 hG.s) (by omega) ((RepS_13 hM.s (i := x1) (by omega) (by omega))) rfl <| ok_istoren (pc' := 21) (ls' := [aR O, aI x1, aI (s ((414 + (8 * x1)) + 4))]) i149_20 (bt rfl) rfl rfl <| ok_iloadn (pc' := 22) i149_21 rfl rfl <| ?_
  refine ok_zne (pc1 := 36) (pc2 := 25) i149_22 (by omega) rfl rfl (fun h4 => ?_) (fun h9 => by exfalso; omega)
  refine ok_aloadn (pc' := 37) i149_36 rfl rfl <| ok_getfr (r := (O + 102)) (pc' := 40) i149_37 o149 gr0_71 (ShYard_k0 hG.y) (ShYard_r12 hG.y) rfl <| ok_aloadn (pc' := 41) i149_40 rfl rfl <| ok_getfr (r := (O + 49)) (pc' := 44) i149_41 o149 gr0_39 (ShYard_k0 hG.y) (ShYard_r8 hG.y) rfl <| ?_
  refine ok_cc i149_44 rfl (cl_v o149 m0_305 na64 rfl rfl (bt rfl) (bt rfl) rfl (by rw [ShHist_k0 hG.h, o64])) ln64 (pd64 (aR (O + 102)) (aR (O + 49))) <| (Ok.deep (ck64 hG hM) (by omega)).mono (fun o9 g1 M1 p1 => ?_)
  obtain ⟨rfl, eg1, hM1, hW1⟩ := p1
  rw [eg1]
  refine kt_0 (pc' := 47) rfl <| ok_aloadn (pc' := 48) i149_47 rfl rfl <| ok_getfr (r := (O + 49)) (pc' := 51) i149_48 o149 gr0_39 (ShYard_k0 hG.y) (ShYard_r8 hG.y) rfl <| ok_getfr (r := (O + 49 + 8)) (pc' := 54) i149_51 o149 gr0_183 (ShState_k0 hG.s) (ShState_r5 hG.s) rfl <| ok_iconst (pc' := 55) i149_54 rfl <| ok_aaload (r := (O + 49 + 13)) (pc' := 56) i149_55 (ShState_k8 hG.s) (by decide) (ShState_l8 hG.s) (by decide) ((ShState_e8_4 hG.s)) rfl <| ok_iloadn (pc' := 57) i149_56 rfl rfl <| ok_iconst (pc' := 58) i149_57 rfl <| ?_
  refine ok_iastore (pc' := 59) i149_58 (ShState_k13 hG.s) (ShState_l13 hG.s) (by omega) rfl <| ?_
  have hRL5 := RL_w13 (i := x1) (v := 0) (RL0 hM1.s) (V_lim hV) (by omega) (by omega)
  refine ok_aloadn (pc' := 60) i149_59 rfl rfl <| ok_getfr (r := (O + 49)) (pc' := 63) i149_60 o149 gr0_39 (ShYard_k0 hG.y) (ShYard_r8 hG.y) rfl <| ok_getfr (r := (O + 49 + 8)) (pc' := 66) i149_63 o149 gr0_183 (ShState_k0 hG.s) (ShState_r5 hG.s) rfl <| ok_bipush (v := 7) (pc' := 68) i149_66 rfl rfl <| ok_aaload (r := (O + 49 + 16)) (pc' := 69) i149_68 (ShState_k8 hG.s) (by decide) (ShState_l8 hG.s) (by decide) ((ShState_e8_7 hG.s)) rfl <| ok_iloadn (pc' := 70) i149_69 rfl rfl <| ok_iconst (pc' := 71) i149_70 rfl <| ok_iastore (pc' := 72) i149_71 (ShState_k16 hG.s) (ShState_l16 hG.s) (by omega) rfl <| ?_
  have hRL6 := RL_w16 (i := x1) (v := 1) hRL5 (V_lim hV) (by omega) (by omega)
  refine ok_iloadn (pc' := 73) i149_72 rfl rfl <| ok_ireti i149_73 rt149 <| ?_
  have hz := CM.wk (b' := b) (t := upI (upI s ((414 + (8 * x1)) + 4) 0) ((414 + (8 * x1)) + 7) 1) hM1 hRL6.1 (V_can hV hx) (Wr.up (Wr.up Wr.rfl (by omega)) (by omega))
  exact ⟨rfl, rfl, hz.1, hW1.trans hz.2⟩
