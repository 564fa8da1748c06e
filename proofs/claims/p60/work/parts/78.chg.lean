/-! THE FACE: changes (by program, wip/p60/gen) -/
theorem m0_305 : am_mlk 0 305 0 64 = true := by decide +kernel
theorem na64 : am_na 64 = 1 := by decide +kernel
theorem nl64 : am_nL 64 = 2 := by decide +kernel
theorem pd64 : ∀ a0 a1 : AV, am_pad 64 [a0, a1] = [a0, a1] := by intros; unfold am_pad; rw [nl64]; rfl
theorem ln64 : 2 ≤ am_nL 64 := by rw [nl64]; decide
theorem m0_316 : am_mlk 0 316 0 41 = true := by decide +kernel
theorem na41 : am_na 41 = 1 := by decide +kernel
theorem nl41 : am_nL 41 = 2 := by decide +kernel
theorem pd41 : ∀ a0 a1 : AV, am_pad 41 [a0, a1] = [a0, a1] := by intros; unfold am_pad; rw [nl41]; rfl
theorem ln41 : 2 ≤ am_nL 41 := by rw [nl41]; decide
theorem rt145 : am_rt 145 = some .int := by decide +kernel
theorem m0_324 : am_mlk 0 324 0 50 = true := by decide +kernel
theorem na50 : am_na 50 = 1 := by decide +kernel
theorem nl50 : am_nL 50 = 3 := by decide +kernel
theorem pd50 : ∀ a0 a1 : AV, am_pad 50 [a0, a1] = [a0, a1, aU] := by intros; unfold am_pad; rw [nl50]; rfl
theorem ln50 : 2 ≤ am_nL 50 := by rw [nl50]; decide
theorem rt147 : am_rt 147 = some .int := by decide +kernel
theorem y145 {g : AG} {M : AM} {O : Nat} {q s : Int → Int} {b : Int} {x1 : Int} (hG : CG g O) (hM : CM M O b q s) (hx : 0 ≤ x1 ∧ x1 < 4) (hb : b + 6 ≤ 1000000) : Ok 5 145 0 [aR O, aI x1] [] g M (Rt (some (aI (fulN q s x1))) g (fun M9 => CM M9 O (b) q (fulS q s x1) ∧ Wr O 348 M M9)) := by
  have hV := hM.v
  have hQ := V_q hV
  have y3 := V_3 hV
  have y4 := V_4 hV
  have y5 := V_5 hV
  have yq0 := Q_0 hQ
  have yq1 := Q_1 hQ
  refine ok_aloadn (pc' := 1) i145_0 rfl rfl <| ok_cc i145_1 rfl (cl_v o145 m0_132 na99 rfl rfl (bt rfl) (bt rfl) rfl (by rw [ShYard_k0 hG.y, o99])) ln99 (pd99 (aR O)) <| ok_aloadn (pc' := 1) i99_0 rfl rfl <| ok_getfi (v := 1) (pc' := 4) i99_1 o99 gi0_268 (ShYard_k0 hG.y) (hM.l) rfl <| ok_kz1 (pc1 := 18) (pc2 := 7) i99_4 (by decide) rfl rfl <| ok_vret i99_18 rt99 <| kt_0 (pc' := 4) rfl <| ok_iloadn (pc' := 5) i145_4 rfl rfl <| ?_
  refine ok_iconst (pc' := 6) i145_5 rfl <| ok_iconst (pc' := 7) i145_6 rfl <| ok_cc i145_7 rfl (cl_s o145 m0_172 na104 rfl rfl (bt rfl) (bt rfl) rfl) ln104 (pd104 (aI x1) (aI 0) (aI 3)) <| ok_iloadn (pc' := 1) i104_0 rfl rfl <| ok_iloadn (pc' := 2) i104_1 rfl rfl <| ?_
  refine ok_clt (pc1 := 10) (pc2 := 5) i104_2 (by omega) rfl rfl (fun h9 => by exfalso; omega) (fun h1 => ?_)
  refine ok_iloadn (pc' := 6) i104_5 rfl rfl <| ok_iloadn (pc' := 7) i104_6 rfl rfl <| ?_
  refine ok_cle (pc1 := 21) (pc2 := 10) i104_7 (by omega) rfl rfl (fun h2 => ?_) (fun h9 => by exfalso; omega)
  refine ok_vret i104_21 rt104 <| kt_0 (pc' := 10) rfl <| ok_aloadn (pc' := 11) i145_10 rfl rfl <| ok_getfr (r := (O + 102)) (pc' := 14) i145_11 o145 gr0_71 (ShYard_k0 hG.y) (ShYard_r12 hG.y) rfl <| ok_aloadn (pc' := 15) i145_14 rfl rfl <| ok_getfr (r := (O + 49)) (pc' := 18) i145_15 o145 gr0_39 (ShYard_k0 hG.y) (ShYard_r8 hG.y) rfl <| ?_
  refine ok_cc i145_18 rfl (cl_v o145 m0_305 na64 rfl rfl (bt rfl) (bt rfl) rfl (by rw [ShHist_k0 hG.h, o64])) ln64 (pd64 (aR (O + 102)) (aR (O + 49))) <| (Ok.deep (ck64 hG hM) (by omega)).mono (fun o9 g1 M1 p1 => ?_)
  obtain ⟨rfl, eg1, hM1, hW1⟩ := p1
  rw [eg1]
  refine kt_0 (pc' := 21) rfl <| ok_aloadn (pc' := 22) i145_21 rfl rfl <| ok_getfr (r := (O + 73)) (pc' := 25) i145_22 o145 gr0_48 (ShYard_k0 hG.y) (ShYard_r9 hG.y) rfl <| ok_iloadn (pc' := 26) i145_25 rfl rfl <| ?_
  refine ok_cc i145_26 rfl (cl_v o145 m0_316 na41 rfl rfl (bt rfl) (bt rfl) rfl (by rw [ShWorks_k0 hG.w, o41])) ln41 (pd41 (aR (O + 73)) (aI x1)) <| (Ok.deep (t41 (x1 := x1) hG.w hG.p hG.s hM1.p hM1.s hQ hV hx hb (by omega)) (by omega)).mono (fun o9 g2 M2 p2 => ?_)
  obtain ⟨rfl, eg2, hR2, hW2⟩ := p2
  rw [eg2]
  refine kt_v (pc' := 29) rfl <| ok_ireti i145_29 rt145 <| ?_
  have hz := CM.wk (b' := b) hM1 hR2 (ful_aft hV x1).1 hW2
  exact ⟨rfl, rfl, hz.1, hW1.trans hz.2⟩
theorem y147 {g : AG} {M : AM} {O : Nat} {q s : Int → Int} {b : Int} {x1 : Int} (hG : CG g O) (hM : CM M O b q s) (hx : 0 ≤ x1 ∧ x1 < q 0) (hx3 : s 3 < 40) : Ok 2 147 0 [aR O, aI x1] [] g M (Rt (some (aI (s 3))) g (fun M9 => CM M9 O (b) q (addT (upI s 6 (s 6 + ((q (2 + x1)) * (q (6 + x1))))) x1 (q (2 + x1))) ∧ Wr O 348 M M9)) := by
  have hV := hM.v
  have hQ := V_q hV
  have y3 := V_3 hV
  have y4 := V_4 hV
  have y5 := V_5 hV
  have yq0 := Q_0 hQ
  have yq1 := Q_1 hQ
  refine ok_aloadn (pc' := 1) i147_0 rfl rfl <| ok_cc i147_1 rfl (cl_v o147 m0_132 na99 rfl rfl (bt rfl) (bt rfl) rfl (by rw [ShYard_k0 hG.y, o99])) ln99 (pd99 (aR O)) <| ok_aloadn (pc' := 1) i99_0 rfl rfl <| ok_getfi (v := 1) (pc' := 4) i99_1 o99 gi0_268 (ShYard_k0 hG.y) (hM.l) rfl <| ok_kz1 (pc1 := 18) (pc2 := 7) i99_4 (by decide) rfl rfl <| ok_vret i99_18 rt99 <| kt_0 (pc' := 4) rfl <| ok_aloadn (pc' := 5) i147_4 rfl rfl <| ?_
  refine ok_iloadn (pc' := 6) i147_5 rfl rfl <| ok_cc i147_6 rfl (cl_v o147 m0_158 na101 rfl rfl (bt rfl) (bt rfl) rfl (by rw [ShYard_k0 hG.y, o101])) ln101 (pd101 (aR O) (aI x1)) <| ok_iloadn (pc' := 1) i101_0 rfl rfl <| ?_
  refine ok_zlt (pc1 := 15) (pc2 := 4) i101_1 (by omega) rfl rfl (fun h9 => by exfalso; omega) (fun h1 => ?_)
  refine ok_iloadn (pc' := 5) i101_4 rfl rfl <| ok_aloadn (pc' := 6) i101_5 rfl rfl <| ok_getfr (r := (O + 38)) (pc' := 9) i101_6 o101 gr0_32 (ShYard_k0 hG.y) (ShYard_r7 hG.y) rfl <| ok_getfi (v := (q 0)) (pc' := 12) i101_9 o101 gi0_135 (ShPlan_k0 hG.p) (hM.p.1) rfl <| ?_
  refine ok_clt (pc1 := 26) (pc2 := 15) i101_12 (by omega) rfl rfl (fun h2 => ?_) (fun h9 => by exfalso; omega)
  refine ok_vret i101_26 rt101 <| kt_0 (pc' := 9) rfl <| ok_aloadn (pc' := 10) i147_9 rfl rfl <| ok_getfr (r := (O + 49)) (pc' := 13) i147_10 o147 gr0_39 (ShYard_k0 hG.y) (ShYard_r8 hG.y) rfl <| ok_getfi (v := (s 3)) (pc' := 16) i147_13 o147 gi0_129 (ShState_k0 hG.s) (hM.s.2.1) rfl <| ok_bipush (v := 40) (pc' := 18) i147_16 rfl rfl <| ?_
  refine ok_clt (pc1 := 32) (pc2 := 21) i147_18 (by omega) rfl rfl (fun h3 => ?_) (fun h9 => by exfalso; omega)
  refine ok_aloadn (pc' := 33) i147_32 rfl rfl <| ok_getfr (r := (O + 102)) (pc' := 36) i147_33 o147 gr0_71 (ShYard_k0 hG.y) (ShYard_r12 hG.y) rfl <| ok_aloadn (pc' := 37) i147_36 rfl rfl <| ok_getfr (r := (O + 49)) (pc' := 40) i147_37 o147 gr0_39 (ShYard_k0 hG.y) (ShYard_r8 hG.y) rfl <| ?_
  refine ok_cc i147_40 rfl (cl_v o147 m0_305 na64 rfl rfl (bt rfl) (bt rfl) rfl (by rw [ShHist_k0 hG.h, o64])) ln64 (pd64 (aR (O + 102)) (aR (O + 49))) <| (Ok.deep (ck64 hG hM) (by omega)).mono (fun o9 g1 M1 p1 => ?_)
  obtain ⟨rfl, eg1, hM1, hW1⟩ := p1
  rw [eg1]
  refine kt_0 (pc' := 43) rfl <| ok_aloadn (pc' := 44) i147_43 rfl rfl <| ok_getfr (r := (O + 73)) (pc' := 47) i147_44 o147 gr0_48 (ShYard_k0 hG.y) (ShYard_r9 hG.y) rfl <| ok_iloadn (pc' := 48) i147_47 rfl rfl <| ?_
  refine ok_cc i147_48 rfl (cl_v o147 m0_324 na50 rfl rfl (bt rfl) (bt rfl) rfl (by rw [ShWorks_k0 hG.w, o50])) ln50 (pd50 (aR (O + 73)) (aI x1)) <| (Ok.deep (t50 (x1 := x1) hG.w hG.p hG.s hM1.p hM1.s hQ hV hx (by omega) (by omega)) (by omega)).mono (fun o9 g2 M2 p2 => ?_)
  obtain ⟨rfl, eg2, hR2, hW2⟩ := p2
  rw [eg2]
  refine kt_v (pc' := 51) rfl <| ok_ireti i147_51 rt147 <| ?_
  have hz := CM.wk (b' := b) hM1 hR2 (V_add (V_acc hV ⟨by omega, by omega⟩) (by rw [upI_ne (by omega)]; omega) hx (Q_2 hQ hx.1 hx.2)) hW2
  exact ⟨rfl, rfl, hz.1, hW1.trans hz.2⟩
