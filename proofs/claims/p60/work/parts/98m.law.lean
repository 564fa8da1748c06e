/-! THE LAW: rounds and end (by program, wip/p60/gen) -/
theorem m13_385 : am_mlk 13 385 1 216 = true := by decide +kernel
theorem na216 : am_na 216 = 2 := by decide +kernel
theorem nl216 : am_nL 216 = 14 := by decide +kernel
theorem pd216 : ∀ a0 a1 : AV, am_pad 216 [a0, a1] = [a0, a1, aU, aU, aU, aU, aU, aU, aU, aU, aU, aU, aU, aU] := by intros; unfold am_pad; rw [nl216]; rfl
theorem ln216 : 2 ≤ am_nL 216 := by rw [nl216]; decide
theorem m13_388 : am_mlk 13 388 1 217 = true := by decide +kernel
theorem na217 : am_na 217 = 2 := by decide +kernel
theorem nl217 : am_nL 217 = 7 := by decide +kernel
theorem pd217 : ∀ a0 a1 : AV, am_pad 217 [a0, a1] = [a0, a1, aU, aU, aU, aU, aU] := by intros; unfold am_pad; rw [nl217]; rfl
theorem ln217 : 2 ≤ am_nL 217 := by rw [nl217]; decide
theorem m13_391 : am_mlk 13 391 1 218 = true := by decide +kernel
theorem na218 : am_na 218 = 2 := by decide +kernel
theorem nl218 : am_nL 218 = 5 := by decide +kernel
theorem pd218 : ∀ a0 a1 : AV, am_pad 218 [a0, a1] = [a0, a1, aU, aU, aU] := by intros; unfold am_pad; rw [nl218]; rfl
theorem ln218 : 2 ≤ am_nL 218 := by rw [nl218]; decide
theorem m13_394 : am_mlk 13 394 1 214 = true := by decide +kernel
theorem na214 : am_na 214 = 3 := by decide +kernel
theorem nl214 : am_nL 214 = 8 := by decide +kernel
theorem pd214 : ∀ a0 a1 a2 : AV, am_pad 214 [a0, a1, a2] = [a0, a1, a2, aU, aU, aU, aU, aU] := by intros; unfold am_pad; rw [nl214]; rfl
theorem ln214 : 3 ≤ am_nL 214 := by rw [nl214]; decide
theorem rt0 : am_rt 0 = some .boolean := by decide +kernel
theorem law_151 {g : AG} {M : AM} {O L : Nat} {d b : Int} {A : YA} {s q : Int → Int} {n z dd : Nat} {Q : AO → AG → AM → Prop} (H : MTx g M O L d b A s q n z) (K : ∀ k : Int, Ok (dd + 22) 0 206 [aR 1, aR 100, aR 101, aR O, aI k] [] g M Q) : Ok (dd + 22) 0 151 [aR 1, aR 100, aR 101, aR O, aI 0] [] g M Q := by
  refine ok_lp (σ := Int) (fun k ls g9 M9 => (0 ≤ k ∧ k ≤ q 0) ∧ g9 = g ∧ M9 = M ∧ ls = [aR 1, aR 100, aR 101, aR O, aI k]) (fun k => (q 0 - k).toNat) ?_ 0 _ g M ⟨by have := Q_0 (V_q (MTx.w H).2.1.v); omega, rfl, rfl, rfl⟩
  rintro k ls g9 M9 ⟨hk, rfl, rfl, rfl⟩ ih
  have hYm := MTx.y H
  have hWm := MTx.w H
  have hV := hWm.2.1.v
  have hQ := V_q hV
  have y3 := V_3 hV
  have y4 := V_4 hV
  have y5 := V_5 hV
  have yq0 := Q_0 hQ
  have yq1 := Q_1 hQ
  refine ok_iload (pc' := 153) i0_151 rfl rfl <| ok_aloadn (pc' := 154) i0_153 rfl rfl <| ok_getfi (v := (q 0)) (pc' := 157) i0_154 o0 gi13_231 (hYm.gr.ky) (hYm.mr.q0) rfl <| ?_
  refine ok_cge (pc1 := 206) (pc2 := 160) i0_157 (by omega) rfl rfl (fun h1 => ?_) (fun h1 => ?_)
  · exact K _
  · refine ok_aloadn (pc' := 161) i0_160 rfl rfl <| ok_iload (pc' := 163) i0_161 rfl rfl <| ok_iconst (pc' := 164) i0_163 rfl <| ?_
    refine ok_cc i0_164 rfl (cl_v o0 m13_36 na100 rfl rfl (bt rfl) (bt rfl) rfl (by rw [ShYard_k0 (MTx.w H).1.y, o100])) ln100 (pd100 (aR O) (aI k) (aI 0)) <| (Ok.deep (y100_0 (Y := O) (P := O + 38) (A := O + 49) (V := O + 73) (T := O + 74) (K := O + 100) (H := O + 102) (X := O + 346) (x1 := k) hWm.1.y hWm.1.w hWm.1.p hWm.1.s hWm.2.1.p hWm.2.1.s hQ hV ⟨by omega, by omega⟩ hWm.2.1.l) (by omega)).mono (fun o9 g11q M11q p11q => ?_)
    obtain ⟨rfl, eg11q, em11q⟩ := p11q
    rw [eg11q, em11q]
    refine kt_v (pc' := 167) rfl <| ok_aloadn (pc' := 168) i0_167 rfl rfl <| ok_getfr (r := 104) (pc' := 171) i0_168 o0 gr13_241 (hYm.gr.ky) (hYm.gr.r1) rfl <| ok_iload (pc' := 173) i0_171 rfl rfl <| ok_aaload (r := (A.K k)) (pc' := 174) i0_173 (hYm.gr.k4) (by decide) (hYm.gr.l4) (by omega) ((hYm.gr.kk k (by omega) (by omega)).1) rfl <| ok_iconst (pc' := 175) i0_174 rfl <| ok_iaload (v := (q (2 + k))) (pc' := 176) i0_175 ((hYm.gr.kk k (by omega) (by omega)).2.2.1) (by decide) ((hYm.gr.kk k (by omega) (by omega)).2.2.2) (by decide) ((hYm.mr.kk k (by omega) (by omega)).1) rfl <| ok_cnes (pc1 := 198) (pc2 := 179) i0_176 rfl rfl <| ?_
    refine ok_aloadn (pc' := 180) i0_179 rfl rfl <| ok_iload (pc' := 182) i0_180 rfl rfl <| ok_iconst (pc' := 183) i0_182 rfl <| ?_
    refine ok_cc i0_183 rfl (cl_v o0 m13_36 na100 rfl rfl (bt rfl) (bt rfl) rfl (by rw [ShYard_k0 (MTx.w H).1.y, o100])) ln100 (pd100 (aR O) (aI k) (aI 1)) <| (Ok.deep (y100_1 (Y := O) (P := O + 38) (A := O + 49) (V := O + 73) (T := O + 74) (K := O + 100) (H := O + 102) (X := O + 346) (x1 := k) hWm.1.y hWm.1.w hWm.1.p hWm.1.s hWm.2.1.p hWm.2.1.s hQ hV ⟨by omega, by omega⟩ hWm.2.1.l) (by omega)).mono (fun o9 g12q M12q p12q => ?_)
    obtain ⟨rfl, eg12q, em12q⟩ := p12q
    rw [eg12q, em12q]
    refine kt_v (pc' := 186) rfl <| ok_aloadn (pc' := 187) i0_186 rfl rfl <| ok_getfr (r := 104) (pc' := 190) i0_187 o0 gr13_241 (hYm.gr.ky) (hYm.gr.r1) rfl <| ok_iload (pc' := 192) i0_190 rfl rfl <| ok_aaload (r := (A.K k)) (pc' := 193) i0_192 (hYm.gr.k4) (by decide) (hYm.gr.l4) (by omega) ((hYm.gr.kk k (by omega) (by omega)).1) rfl <| ok_iconst (pc' := 194) i0_193 rfl <| ok_iaload (v := (q (6 + k))) (pc' := 195) i0_194 ((hYm.gr.kk k (by omega) (by omega)).2.2.1) (by decide) ((hYm.gr.kk k (by omega) (by omega)).2.2.2) (by decide) ((hYm.mr.kk k (by omega) (by omega)).2) rfl <| ok_ceqs (pc1 := 200) (pc2 := 198) i0_195 rfl rfl <| ?_
    refine ok_iinc (pc' := 203) (v := (k + 1)) (ls' := [aR 1, aR 100, aR 101, aR O, aI (k + 1)]) i0_200 rfl rfl rfl rfl <| ok_goto (pc' := 151) i0_203 rfl <| ?_
    exact ih (k + 1) _ _ _ (by omega) ⟨by omega, rfl, rfl, rfl⟩
theorem MTx.act {g g1 : AG} {M M1 : AM} {O L : Nat} {d b d1 : Int} {A A1 : YA} {s s1 q : Int → Int} {n z : Nat} (h : MTx g M O L d b A s q n z) (x1 : Yd g1 M1 O A1 s1 q) (x2 : CW g1 M1 O (b + 6) q s1) (x3 : s1 542 = 0) (x4 : s1 3 ≤ 40) (x5 : Dr g1 M1 L d1) (x7 : gN g1 ≤ gN g + 8900) (x8 : gS g1 ≤ gS g + 200000) (x9 : ∀ c : Nat, c < 100 → SG g g1 c ∧ M1 c = M c) : MTx g1 M1 O L d1 (b + 6) A1 s1 q (n + 8900) (z + 200000) := by
  obtain ⟨a1, a2, a3, a4, a5, a6, a7, a8, a9⟩ := h
  exact ⟨x1, x2, fun c c0 c1 => by
    obtain ⟨⟨h1, h2, h3⟩, h4⟩ := a3 c c0 c1
    obtain ⟨⟨k1, k2, k3⟩, k4⟩ := x9 c c1
    exact ⟨⟨k1.trans h1, k2.trans h2, k3.trans h3⟩, k4.trans h4⟩, x5, x3, x4, a7, by omega, by omega⟩
theorem MTx.dw {g : AG} {M : AM} {O L : Nat} {d b : Int} {A : YA} {s q : Int → Int} {n z : Nat} (h : MTx g M O L d b A s q n z) (hd : d + 1 ≤ 1000000) : MTx g (up2 M 100 1 (d + 1)) O L (d + 1) b A s q n z := by
  obtain ⟨a1, a2, a3, a4, a5, a6, a7, a8, a9⟩ := h
  exact ⟨a1.mm (dm_ne (v := d + 1)), CW.mm a1.gr.o a2 (dm_ne (v := d + 1)), fun c c0 c1 => ⟨(a3 c c0 c1).1, by rw [up2_na (by omega)]; exact (a3 c c0 c1).2⟩, a4.nx hd, a5, a6, a7, a8, a9⟩
/-- one round -/
theorem law_220 {g : AG} {M : AM} {O L : Nat} {d b : Int} {A : YA} {s q : Int → Int} {n z dd : Nat} {Q : AO → AG → AM → Prop} {tt : Int} (H : MTx g M O L d b A s q n z) (htt : 1 ≤ tt ∧ tt ≤ 14) (hd : d + 3 ≤ 1000000) (hb : b + 6 ≤ 200) (K : ∀ (g1 : AG) (M1 : AM) (A1 : YA) (s1 : Int → Int), MTx g1 M1 O L (d + 1 + 1 + 1) (b + 6) A1 s1 q (n + 1 + 19 + 461 + 8900 + 16) (z + 1 + 1249 + 4172 + 200000 + 128) → Ok (dd + 22) 0 215 [aR 1, aR 100, aR 101, aR O, aI (tt + (-1))] [] g1 M1 Q) : Ok (dd + 22) 0 220 [aR 1, aR 100, aR 101, aR O, aI tt] [] g M Q := by
  have hYm := MTx.y H
  have hWm := MTx.w H
  have hV := hWm.2.1.v
  have hQ := V_q hV
  have y3 := V_3 hV
  have y4 := V_4 hV
  have y5 := V_5 hV
  have yq0 := Q_0 hQ
  have yq1 := Q_1 hQ
  refine ok_aloadn (pc' := 221) i0_220 rfl rfl <| ok_aloadn (pc' := 222) i0_221 rfl rfl <| ?_
  refine ok_cc i0_222 rfl (cl_s o0 m13_385 na216 rfl rfl (bt rfl) (bt rfl) rfl) ln216 (pd216 (aR O) (aR 101)) <| (Ok.deep (t216 hYm hWm H.2.2.2.2.1) (by omega)).mono (fun o9 g13L M13L p13L => ?_)
  obtain ⟨rfl, e13L, _, _⟩ := p13L
  have H13 := MTx.f0 H e13L
  have hYm13 := MTx.y H13
  have hWm13 := MTx.w H13
  refine kt_v (pc' := 225) rfl <| ok_kz0 (pc1 := 261) (pc2 := 228) i0_225 (by decide) rfl rfl <| ok_aloadn (pc' := 229) i0_228 rfl rfl <| ok_aloadn (pc' := 230) i0_229 rfl rfl <| ?_
  refine ok_cc i0_230 rfl (cl_s o0 m13_388 na217 rfl rfl (bt rfl) (bt rfl) rfl) ln217 (pd217 (aR O) (aR 101)) <| (Ok.deep (t217 hYm13 hWm13) (by omega)).mono (fun o9 g14L M14L p14L => ?_)
  obtain ⟨rfl, e14L, _, _⟩ := p14L
  have H14 := MTx.f0 H13 e14L
  have hYm14 := MTx.y H14
  have hWm14 := MTx.w H14
  refine kt_v (pc' := 233) rfl <| ok_kz0 (pc1 := 261) (pc2 := 236) i0_233 (by decide) rfl rfl <| ok_aloadn (pc' := 237) i0_236 rfl rfl <| ok_aloadn (pc' := 238) i0_237 rfl rfl <| ?_
  refine ok_cc i0_238 rfl (cl_s o0 m13_391 na218 rfl rfl (bt rfl) (bt rfl) rfl) ln218 (pd218 (aR O) (aR 101)) <| (Ok.deep (t218 hYm14 hWm14 (MTx.bs H14) H14.2.2.2.2.2.1) (by omega)).mono (fun o9 g15L M15L p15L => ?_)
  obtain ⟨rfl, e15L, _, hw15L⟩ := p15L
  have H15 := MTx.fc H14 e15L hw15L
  have hYm15 := MTx.y H15
  have hWm15 := MTx.w H15
  refine kt_v (pc' := 241) rfl <| ok_kz0 (pc1 := 261) (pc2 := 244) i0_241 (by decide) rfl rfl <| ok_aloadn (pc' := 245) i0_244 rfl rfl <| ok_aloadn (pc' := 246) i0_245 rfl rfl <| ok_aloadn (pc' := 247) i0_246 rfl rfl <| ?_
  refine ok_cc i0_247 rfl (cl_s o0 m13_394 na214 rfl rfl (bt rfl) (bt rfl) rfl) ln214 (pd214 (aR O) (aR 101) (aR 100)) <| (Ok.deep (t214b hYm15 hWm15 (MTx.dr H15) (by omega) H15.2.2.2.2.2.2.1 H15.2.2.2.2.1 H15.2.2.2.2.2.1 (by omega)) (by omega)).mono (fun o9 g16L M16L p16L => ?_)
  obtain ⟨rfl, A1, s1, x1, x2, x3, x4, x5, x6, x7, x8, x9⟩ := p16L
  have H16 := MTx.act H15 x1 x2 x3 x4 x5 x7 x8 x9
  have hYm16 := MTx.y H16
  have hWm16 := MTx.w H16
  refine kt_v (pc' := 250) rfl <| ok_kz0 (pc1 := 261) (pc2 := 253) i0_250 (by decide) rfl rfl <| ok_aloadn (pc' := 254) i0_253 rfl rfl <| ok_aloadn (pc' := 255) i0_254 rfl rfl <| ?_
  refine ok_cc i0_255 rfl (cl_s o0 m13_381 na213 rfl rfl (bt rfl) (bt rfl) rfl) ln213 (pd213 (aR O) (aR 101)) <| (Ok.deep (t213 hYm16 hWm16) (by omega)).mono (fun o9 g17L M17L p17L => ?_)
  obtain ⟨rfl, e17L, _, _⟩ := p17L
  have H17 := MTx.f0 H16 e17L
  have hYm17 := MTx.y H17
  have hWm17 := MTx.w H17
  refine kt_v (pc' := 258) rfl <| ok_kz1 (pc1 := 263) (pc2 := 261) i0_258 (by decide) rfl rfl <| ok_iinc (pc' := 266) (v := (tt + (-1))) (ls' := [aR 1, aR 100, aR 101, aR O, aI (tt + (-1))]) i0_263 rfl rfl rfl rfl <| ok_goto (pc' := 215) i0_266 rfl <| ?_
  exact K _ _ A1 s1 H17
theorem y148_e {g : AG} {M : AM} {O : Nat} {q s : Int → Int} {b x2 x3 x4 : Int} (hW : CW g M O b q s) (hx : (x2 = 10 ∧ x3 = 0 ∧ x4 = 0) ∨ (x2 = 1 ∧ x3 = 100 ∧ x4 = 0) ∨ (x2 = 1 ∧ x3 = 0 ∧ x4 = 1000)) : Ok 2 148 0 [aR O, aI 1, aI x2, aI x3, aI x4, aU] [] g M (fun o g1 M1 => o = .inr 11 ∧ g1 = am_alloc g 30 0 6 ∧ M1 = M) := by
  have hV := hW.2.1.v
  have hQ := V_q hV
  by_cases h : s 4 < 16
  · rcases hx with ⟨rfl, rfl, rfl⟩ | ⟨rfl, rfl, rfl⟩ | ⟨rfl, rfl, rfl⟩
    · exact (y148_x1 (Y := O) (P := O + 38) (A := O + 49) (V := O + 73) (T := O + 74) (K := O + 100) (H := O + 102) (X := O + 346) hW.1.y hW.1.w hW.1.p hW.1.s hW.2.1.p hW.2.1.s hQ hV h hW.2.1.l)
    · exact (y148_x2 (Y := O) (P := O + 38) (A := O + 49) (V := O + 73) (T := O + 74) (K := O + 100) (H := O + 102) (X := O + 346) hW.1.y hW.1.w hW.1.p hW.1.s hW.2.1.p hW.2.1.s hQ hV h hW.2.1.l)
    · exact (y148_x3 (Y := O) (P := O + 38) (A := O + 49) (V := O + 73) (T := O + 74) (K := O + 100) (H := O + 102) (X := O + 346) hW.1.y hW.1.w hW.1.p hW.1.s hW.2.1.p hW.2.1.s hQ hV h hW.2.1.l)
  · exact (y148_x0 (Y := O) (P := O + 38) (A := O + 49) (V := O + 73) (T := O + 74) (K := O + 100) (H := O + 102) (X := O + 346) (x1 := 1) (x2 := x2) (x3 := x3) (x4 := x4) hW.1.y hW.1.w hW.1.p hW.1.s hW.2.1.p hW.2.1.s hQ hV (by omega) hW.2.1.l)
/-- the end -/
theorem law_269 {g : AG} {M : AM} {O L : Nat} {d b : Int} {A : YA} {s q : Int → Int} {n z dd : Nat} {Q : AO → AG → AM → Prop} {tt : Int} (H : MTx g M O L d b A s q n z) (K : ∀ (g1 : AG) (M1 : AM), MTx g1 M1 O L d b A s q (n + 6) (z + 40) → Ok (dd + 22) 0 331 [aR 1, aR 100, aR 101, aR O, aI tt] [] g1 M1 Q) : Ok (dd + 22) 0 269 [aR 1, aR 100, aR 101, aR O, aI tt] [] g M Q := by
  have hYm := MTx.y H
  have hWm := MTx.w H
  have hV := hWm.2.1.v
  have hQ := V_q hV
  have y3 := V_3 hV
  have y4 := V_4 hV
  have y5 := V_5 hV
  have yq0 := Q_0 hQ
  have yq1 := Q_1 hQ
  refine ok_aloadn (pc' := 270) i0_269 rfl rfl <| ok_iconst (pc' := 271) i0_270 rfl <| ok_bipush (v := 8) (pc' := 273) i0_271 rfl rfl <| ok_iconst (pc' := 274) i0_273 rfl <| ok_iconst (pc' := 275) i0_274 rfl <| ok_iconst (pc' := 276) i0_275 rfl <| ?_
  refine ok_cc i0_276 rfl (cl_s o0 m13_234 na211 rfl rfl (bt rfl) (bt rfl) rfl) ln211 (pd211 (aR O) (aI 0) (aI 8) (aI 0) (aI 0) (aI 0)) <| (Ok.deep (t211_3 (k212_0 (lev := 1) (ShYard_k0 hWm.1.y) (by omega) (y98_x (Y := O) (P := O + 38) (A := O + 49) (V := O + 73) (T := O + 74) (K := O + 100) (H := O + 102) (X := O + 346) hWm.1.y hWm.1.w hWm.1.p hWm.1.s hWm.2.1.p hWm.2.1.s hQ hV hWm.2.1.l))) (by omega)).mono (fun o9 g18t M18t p18t => ?_)
  obtain ⟨rfl, eg18, em18⟩ := p18t
  have H18 := MTx.f0 H (Fr.xx eg18 em18)
  clear eg18 em18
  have hYm18 := MTx.y H18
  have hWm18 := MTx.w H18
  refine kt_v (pc' := 279) rfl <| ok_iconst (pc' := 280) i0_279 rfl <| ok_kc0 (pc1 := 373) (pc2 := 283) i0_280 (by decide) rfl rfl <| ok_aloadn (pc' := 284) i0_283 rfl rfl <| ok_iconst (pc' := 285) i0_284 rfl <| ok_aloadn (pc' := 286) i0_285 rfl rfl <| ok_getfi (v := (q 0)) (pc' := 289) i0_286 o0 gi13_231 (hYm18.gr.ky) (hYm18.mr.q0) rfl <| ok_iconst (pc' := 290) i0_289 rfl <| ?_
  refine ok_iconst (pc' := 291) i0_290 rfl <| ok_iconst (pc' := 292) i0_291 rfl <| ?_
  refine ok_cc i0_292 rfl (cl_s o0 m13_234 na211 rfl rfl (bt rfl) (bt rfl) rfl) ln211 (pd211 (aR O) (aI 1) (aI (q 0)) (aI 0) (aI 0) (aI 0)) <| (Ok.deep (t211_2 (k212_1 (lev := 1) (ShYard_k0 hWm18.1.y) (by omega) (y100_x (Y := O) (P := O + 38) (A := O + 49) (V := O + 73) (T := O + 74) (K := O + 100) (H := O + 102) (X := O + 346) (x1 := q 0) hWm18.1.y hWm18.1.w hWm18.1.p hWm18.1.s hWm18.2.1.p hWm18.2.1.s hQ hV ⟨Int.le_refl _, by omega⟩ hWm18.2.1.l))) (by omega)).mono (fun o9 g19t M19t p19t => ?_)
  obtain ⟨rfl, eg19, em19⟩ := p19t
  have H19 := MTx.f0 H18 (Fr.xx eg19 em19)
  clear eg19 em19
  have hYm19 := MTx.y H19
  have hWm19 := MTx.w H19
  refine kt_v (pc' := 295) rfl <| ok_iconst (pc' := 296) i0_295 rfl <| ok_kc0 (pc1 := 373) (pc2 := 299) i0_296 (by decide) rfl rfl <| ok_aloadn (pc' := 300) i0_299 rfl rfl <| ok_iconst (pc' := 301) i0_300 rfl <| ok_aloadn (pc' := 302) i0_301 rfl rfl <| ok_getfi (v := (s 3)) (pc' := 305) i0_302 o0 gi13_152 (hYm19.gr.ky) ((Yd.n3 hYm19)) rfl <| ok_iconst (pc' := 306) i0_305 rfl <| ?_
  refine ok_iconst (pc' := 307) i0_306 rfl <| ok_iconst (pc' := 308) i0_307 rfl <| ?_
  refine ok_cc i0_308 rfl (cl_s o0 m13_234 na211 rfl rfl (bt rfl) (bt rfl) rfl) ln211 (pd211 (aR O) (aI 2) (aI (s 3)) (aI 0) (aI 0) (aI 0)) <| (Ok.deep (t211_2 (k212_2 (lev := 1) (ShYard_k0 hWm19.1.y) (by omega) (y102_x (Y := O) (P := O + 38) (A := O + 49) (V := O + 73) (T := O + 74) (K := O + 100) (H := O + 102) (X := O + 346) (x1 := s 3) hWm19.1.y hWm19.1.w hWm19.1.p hWm19.1.s hWm19.2.1.p hWm19.2.1.s hQ hV ⟨Int.le_refl _, by omega⟩ hWm19.2.1.l))) (by omega)).mono (fun o9 g20t M20t p20t => ?_)
  obtain ⟨rfl, eg20, em20⟩ := p20t
  have H20 := MTx.f0 H19 (Fr.xx eg20 em20)
  clear eg20 em20
  have hYm20 := MTx.y H20
  have hWm20 := MTx.w H20
  refine kt_v (pc' := 311) rfl <| ok_iconst (pc' := 312) i0_311 rfl <| ok_kc0 (pc1 := 373) (pc2 := 315) i0_312 (by decide) rfl rfl <| ok_aloadn (pc' := 316) i0_315 rfl rfl <| ok_iconst (pc' := 317) i0_316 rfl <| ok_aloadn (pc' := 318) i0_317 rfl rfl <| ok_getfi (v := (s 4)) (pc' := 321) i0_318 o0 gi13_155 (hYm20.gr.ky) ((Yd.n4 hYm20)) rfl <| ok_iconst (pc' := 322) i0_321 rfl <| ?_
  refine ok_iconst (pc' := 323) i0_322 rfl <| ok_iconst (pc' := 324) i0_323 rfl <| ?_
  refine ok_cc i0_324 rfl (cl_s o0 m13_234 na211 rfl rfl (bt rfl) (bt rfl) rfl) ln211 (pd211 (aR O) (aI 3) (aI (s 4)) (aI 0) (aI 0) (aI 0)) <| (Ok.deep (t211_2 (k212_3 (lev := 1) (ShYard_k0 hWm20.1.y) (by omega) (y105_x (Y := O) (P := O + 38) (A := O + 49) (V := O + 73) (T := O + 74) (K := O + 100) (H := O + 102) (X := O + 346) (x1 := s 4) hWm20.1.y hWm20.1.w hWm20.1.p hWm20.1.s hWm20.2.1.p hWm20.2.1.s hQ hV ⟨Int.le_refl _, by omega⟩ hWm20.2.1.l))) (by omega)).mono (fun o9 g21t M21t p21t => ?_)
  obtain ⟨rfl, eg21, em21⟩ := p21t
  have H21 := MTx.f0 H20 (Fr.xx eg21 em21)
  clear eg21 em21
  have hYm21 := MTx.y H21
  have hWm21 := MTx.w H21
  refine kt_v (pc' := 327) rfl <| ok_iconst (pc' := 328) i0_327 rfl <| ok_kc0 (pc1 := 373) (pc2 := 331) i0_328 (by decide) rfl rfl <| ?_
  exact K _ _ (MTx.up H21 (by omega) (by omega))
/-- the end -/
theorem law_331 {g : AG} {M : AM} {O L : Nat} {d b : Int} {A : YA} {s q : Int → Int} {n z dd : Nat} {Q : AO → AG → AM → Prop} {tt : Int} (H : MTx g M O L d b A s q n z) (K : ∀ (g1 : AG) (M1 : AM), MTx g1 M1 O L d b A s q (n + 6) (z + 40) → Ok (dd + 22) 0 418 [aR 1, aR 100, aR 101, aR O, aI tt] [] g1 M1 Q) : Ok (dd + 22) 0 331 [aR 1, aR 100, aR 101, aR O, aI tt] [] g M Q := by
  have hYm := MTx.y H
  have hWm := MTx.w H
  have hV := hWm.2.1.v
  have hQ := V_q hV
  have y3 := V_3 hV
  have y4 := V_4 hV
  have y5 := V_5 hV
  have yq0 := Q_0 hQ
  have yq1 := Q_1 hQ
  refine ok_aloadn (pc' := 332) i0_331 rfl rfl <| ok_iconst (pc' := 333) i0_332 rfl <| ok_iconst (pc' := 334) i0_333 rfl <| ok_iconst (pc' := 335) i0_334 rfl <| ok_iconst (pc' := 336) i0_335 rfl <| ok_iconst (pc' := 337) i0_336 rfl <| ?_
  refine ok_cc i0_337 rfl (cl_s o0 m13_234 na211 rfl rfl (bt rfl) (bt rfl) rfl) ln211 (pd211 (aR O) (aI 5) (aI 0) (aI 0) (aI 0) (aI 0)) <| (Ok.deep (t211_3 (k212_5 (lev := 2) (ShYard_k0 hWm.1.y) (by omega) (y112_x0 (Y := O) (P := O + 38) (A := O + 49) (V := O + 73) (T := O + 74) (K := O + 100) (H := O + 102) (X := O + 346) hWm.1.y hWm.1.w hWm.1.p hWm.1.s hWm.2.1.p hWm.2.1.s hQ hV hWm.2.1.l))) (by omega)).mono (fun o9 g22t M22t p22t => ?_)
  obtain ⟨rfl, eg22, em22⟩ := p22t
  have H22 := MTx.f0 H (Fr.xx eg22 em22)
  clear eg22 em22
  have hYm22 := MTx.y H22
  have hWm22 := MTx.w H22
  refine kt_v (pc' := 340) rfl <| ok_iconst (pc' := 341) i0_340 rfl <| ok_kc0 (pc1 := 373) (pc2 := 344) i0_341 (by decide) rfl rfl <| ok_aloadn (pc' := 345) i0_344 rfl rfl <| ok_iconst (pc' := 346) i0_345 rfl <| ok_sipush (v := 201) (pc' := 349) i0_346 rfl rfl <| ok_iconst (pc' := 350) i0_349 rfl <| ok_iconst (pc' := 351) i0_350 rfl <| ?_
  refine ok_iconst (pc' := 352) i0_351 rfl <| ?_
  refine ok_cc i0_352 rfl (cl_s o0 m13_234 na211 rfl rfl (bt rfl) (bt rfl) rfl) ln211 (pd211 (aR O) (aI 5) (aI 201) (aI 0) (aI 0) (aI 0)) <| (Ok.deep (t211_3 (k212_5 (lev := 2) (ShYard_k0 hWm22.1.y) (by omega) (y112_x1 (Y := O) (P := O + 38) (A := O + 49) (V := O + 73) (T := O + 74) (K := O + 100) (H := O + 102) (X := O + 346) hWm22.1.y hWm22.1.w hWm22.1.p hWm22.1.s hWm22.2.1.p hWm22.2.1.s hQ hV hWm22.2.1.l))) (by omega)).mono (fun o9 g23t M23t p23t => ?_)
  obtain ⟨rfl, eg23, em23⟩ := p23t
  have H23 := MTx.f0 H22 (Fr.xx eg23 em23)
  clear eg23 em23
  have hYm23 := MTx.y H23
  have hWm23 := MTx.w H23
  refine kt_v (pc' := 355) rfl <| ok_iconst (pc' := 356) i0_355 rfl <| ok_kc0 (pc1 := 373) (pc2 := 359) i0_356 (by decide) rfl rfl <| ok_aloadn (pc' := 360) i0_359 rfl rfl <| ok_bipush (v := 7) (pc' := 362) i0_360 rfl rfl <| ok_iconst (pc' := 363) i0_362 rfl <| ok_iconst (pc' := 364) i0_363 rfl <| ok_iconst (pc' := 365) i0_364 rfl <| ?_
  refine ok_iconst (pc' := 366) i0_365 rfl <| ?_
  refine ok_cc i0_366 rfl (cl_s o0 m13_234 na211 rfl rfl (bt rfl) (bt rfl) rfl) ln211 (pd211 (aR O) (aI 7) (aI 1) (aI 3) (aI 0) (aI 0)) <| (Ok.deep (t211_3 (k212_7 (lev := 2) (ShYard_k0 hWm23.1.y) (by omega) (y116_x (Y := O) (P := O + 38) (A := O + 49) (V := O + 73) (T := O + 74) (K := O + 100) (H := O + 102) (X := O + 346) hWm23.1.y hWm23.1.w hWm23.1.p hWm23.1.s hWm23.2.1.p hWm23.2.1.s hQ hV hWm23.2.1.l))) (by omega)).mono (fun o9 g24t M24t p24t => ?_)
  obtain ⟨rfl, eg24, em24⟩ := p24t
  have H24 := MTx.f0 H23 (Fr.xx eg24 em24)
  clear eg24 em24
  have hYm24 := MTx.y H24
  have hWm24 := MTx.w H24
  refine kt_v (pc' := 369) rfl <| ok_iconst (pc' := 370) i0_369 rfl <| ok_kc1 (pc1 := 375) (pc2 := 373) i0_370 (by decide) rfl rfl <| ok_aloadn (pc' := 376) i0_375 rfl rfl <| ok_bipush (v := 12) (pc' := 378) i0_376 rfl rfl <| ok_bipush (v := 8) (pc' := 380) i0_378 rfl rfl <| ok_iconst (pc' := 381) i0_380 rfl <| ok_iconst (pc' := 382) i0_381 rfl <| ?_
  refine ok_iconst (pc' := 383) i0_382 rfl <| ?_
  refine ok_cc i0_383 rfl (cl_s o0 m13_234 na211 rfl rfl (bt rfl) (bt rfl) rfl) ln211 (pd211 (aR O) (aI 12) (aI 8) (aI 0) (aI 0) (aI 0)) <| (Ok.deep (t211_3 (k212_12 (lev := 1) (ShYard_k0 hWm24.1.y) (by omega) (y135_x (Y := O) (P := O + 38) (A := O + 49) (V := O + 73) (T := O + 74) (K := O + 100) (H := O + 102) (X := O + 346) hWm24.1.y hWm24.1.w hWm24.1.p hWm24.1.s hWm24.2.1.p hWm24.2.1.s hQ hV hWm24.2.1.l))) (by omega)).mono (fun o9 g25t M25t p25t => ?_)
  obtain ⟨rfl, eg25, em25⟩ := p25t
  have H25 := MTx.f0 H24 (Fr.xx eg25 em25)
  clear eg25 em25
  have hYm25 := MTx.y H25
  have hWm25 := MTx.w H25
  refine kt_v (pc' := 386) rfl <| ok_iconst (pc' := 387) i0_386 rfl <| ok_kc0 (pc1 := 524) (pc2 := 390) i0_387 (by decide) rfl rfl <| ok_aloadn (pc' := 391) i0_390 rfl rfl <| ok_bipush (v := 30) (pc' := 393) i0_391 rfl rfl <| ok_iconst (pc' := 394) i0_393 rfl <| ok_iconst (pc' := 395) i0_394 rfl <| ok_iconst (pc' := 396) i0_395 rfl <| ?_
  refine ok_iconst (pc' := 397) i0_396 rfl <| ?_
  refine ok_cc i0_397 rfl (cl_s o0 m13_234 na211 rfl rfl (bt rfl) (bt rfl) rfl) ln211 (pd211 (aR O) (aI 30) (aI 2) (aI 0) (aI 0) (aI 0)) <| (Ok.deep (t211_3 (k212_30 (lev := 1) (ShYard_k0 hWm25.1.y) (by omega) (y110_x (Y := O) (P := O + 38) (A := O + 49) (V := O + 73) (T := O + 74) (K := O + 100) (H := O + 102) (X := O + 346) hWm25.1.y hWm25.1.w hWm25.1.p hWm25.1.s hWm25.2.1.p hWm25.2.1.s hQ hV hWm25.2.1.l))) (by omega)).mono (fun o9 g26t M26t p26t => ?_)
  obtain ⟨rfl, eg26, em26⟩ := p26t
  have H26 := MTx.f0 H25 (Fr.xx eg26 em26)
  clear eg26 em26
  have hYm26 := MTx.y H26
  have hWm26 := MTx.w H26
  refine kt_v (pc' := 400) rfl <| ok_iconst (pc' := 401) i0_400 rfl <| ok_kc0 (pc1 := 524) (pc2 := 404) i0_401 (by decide) rfl rfl <| ok_aloadn (pc' := 405) i0_404 rfl rfl <| ok_bipush (v := 18) (pc' := 407) i0_405 rfl rfl <| ok_iconst (pc' := 408) i0_407 rfl <| ok_iconst (pc' := 409) i0_408 rfl <| ok_iconst (pc' := 410) i0_409 rfl <| ?_
  refine ok_iconst (pc' := 411) i0_410 rfl <| ?_
  refine ok_cc i0_411 rfl (cl_s o0 m13_234 na211 rfl rfl (bt rfl) (bt rfl) rfl) ln211 (pd211 (aR O) (aI 18) (aI 4) (aI 0) (aI 0) (aI 0)) <| (Ok.deep (t211_3 (k212_18 (lev := 5) (ShYard_k0 hWm26.1.y) (by omega) (y145_x (Y := O) (P := O + 38) (A := O + 49) (V := O + 73) (T := O + 74) (K := O + 100) (H := O + 102) (X := O + 346) hWm26.1.y hWm26.1.w hWm26.1.p hWm26.1.s hWm26.2.1.p hWm26.2.1.s hQ hV hWm26.2.1.l))) (by omega)).mono (fun o9 g27t M27t p27t => ?_)
  obtain ⟨rfl, eg27, em27⟩ := p27t
  have H27 := MTx.f0 H26 (Fr.xx eg27 em27)
  clear eg27 em27
  have hYm27 := MTx.y H27
  have hWm27 := MTx.w H27
  refine kt_v (pc' := 414) rfl <| ok_iconst (pc' := 415) i0_414 rfl <| ok_kc0 (pc1 := 524) (pc2 := 418) i0_415 (by decide) rfl rfl <| ?_
  exact K _ _ (MTx.up H27 (by omega) (by omega))
/-- the end -/
theorem law_418 {g : AG} {M : AM} {O L : Nat} {d b : Int} {A : YA} {s q : Int → Int} {n z dd : Nat} {Q : AO → AG → AM → Prop} {tt : Int} (H : MTx g M O L d b A s q n z) (K : ∀ (g1 : AG) (M1 : AM), MTx g1 M1 O L d b A s q (n + 6) (z + 40) → Ok (dd + 22) 0 481 [aR 1, aR 100, aR 101, aR O, aI tt] [] g1 M1 Q) : Ok (dd + 22) 0 418 [aR 1, aR 100, aR 101, aR O, aI tt] [] g M Q := by
  have hYm := MTx.y H
  have hWm := MTx.w H
  have hV := hWm.2.1.v
  have hQ := V_q hV
  have y3 := V_3 hV
  have y4 := V_4 hV
  have y5 := V_5 hV
  have yq0 := Q_0 hQ
  have yq1 := Q_1 hQ
  refine ok_aloadn (pc' := 419) i0_418 rfl rfl <| ok_bipush (v := 20) (pc' := 421) i0_419 rfl rfl <| ok_aloadn (pc' := 422) i0_421 rfl rfl <| ok_getfi (v := (q 0)) (pc' := 425) i0_422 o0 gi13_231 (hYm.gr.ky) (hYm.mr.q0) rfl <| ok_iconst (pc' := 426) i0_425 rfl <| ok_iconst (pc' := 427) i0_426 rfl <| ok_iconst (pc' := 428) i0_427 rfl <| ?_
  refine ok_cc i0_428 rfl (cl_s o0 m13_234 na211 rfl rfl (bt rfl) (bt rfl) rfl) ln211 (pd211 (aR O) (aI 20) (aI (q 0)) (aI 0) (aI 0) (aI 0)) <| (Ok.deep (t211_2 (k212_20 (lev := 2) (ShYard_k0 hWm.1.y) (by omega) (y147_x0 (Y := O) (P := O + 38) (A := O + 49) (V := O + 73) (T := O + 74) (K := O + 100) (H := O + 102) (X := O + 346) (x1 := q 0) hWm.1.y hWm.1.w hWm.1.p hWm.1.s hWm.2.1.p hWm.2.1.s hQ hV ⟨Int.le_refl _, by omega⟩ hWm.2.1.l))) (by omega)).mono (fun o9 g28t M28t p28t => ?_)
  obtain ⟨rfl, eg28, em28⟩ := p28t
  have H28 := MTx.f0 H (Fr.xx eg28 em28)
  clear eg28 em28
  have hYm28 := MTx.y H28
  have hWm28 := MTx.w H28
  refine kt_v (pc' := 431) rfl <| ok_iconst (pc' := 432) i0_431 rfl <| ok_kc0 (pc1 := 524) (pc2 := 435) i0_432 (by decide) rfl rfl <| ok_aloadn (pc' := 436) i0_435 rfl rfl <| ok_bipush (v := 21) (pc' := 438) i0_436 rfl rfl <| ok_iconst (pc' := 439) i0_438 rfl <| ok_bipush (v := 10) (pc' := 441) i0_439 rfl rfl <| ok_iconst (pc' := 442) i0_441 rfl <| ?_
  refine ok_iconst (pc' := 443) i0_442 rfl <| ?_
  refine ok_cc i0_443 rfl (cl_s o0 m13_234 na211 rfl rfl (bt rfl) (bt rfl) rfl) ln211 (pd211 (aR O) (aI 21) (aI 1) (aI 10) (aI 0) (aI 0)) <| (Ok.deep (t211_3 (k212_21 (lev := 2) (ShYard_k0 hWm28.1.y) (by omega) (y148_e hWm28 (by decide)))) (by omega)).mono (fun o9 g29t M29t p29t => ?_)
  obtain ⟨rfl, eg29, em29⟩ := p29t
  have H29 := MTx.f0 H28 (Fr.xx eg29 em29)
  clear eg29 em29
  have hYm29 := MTx.y H29
  have hWm29 := MTx.w H29
  refine kt_v (pc' := 446) rfl <| ok_iconst (pc' := 447) i0_446 rfl <| ok_kc0 (pc1 := 524) (pc2 := 450) i0_447 (by decide) rfl rfl <| ok_aloadn (pc' := 451) i0_450 rfl rfl <| ok_bipush (v := 21) (pc' := 453) i0_451 rfl rfl <| ok_iconst (pc' := 454) i0_453 rfl <| ok_iconst (pc' := 455) i0_454 rfl <| ok_bipush (v := 100) (pc' := 457) i0_455 rfl rfl <| ?_
  refine ok_iconst (pc' := 458) i0_457 rfl <| ?_
  refine ok_cc i0_458 rfl (cl_s o0 m13_234 na211 rfl rfl (bt rfl) (bt rfl) rfl) ln211 (pd211 (aR O) (aI 21) (aI 1) (aI 1) (aI 100) (aI 0)) <| (Ok.deep (t211_3 (k212_21 (lev := 2) (ShYard_k0 hWm29.1.y) (by omega) (y148_e hWm29 (by decide)))) (by omega)).mono (fun o9 g30t M30t p30t => ?_)
  obtain ⟨rfl, eg30, em30⟩ := p30t
  have H30 := MTx.f0 H29 (Fr.xx eg30 em30)
  clear eg30 em30
  have hYm30 := MTx.y H30
  have hWm30 := MTx.w H30
  refine kt_v (pc' := 461) rfl <| ok_iconst (pc' := 462) i0_461 rfl <| ok_kc0 (pc1 := 524) (pc2 := 465) i0_462 (by decide) rfl rfl <| ok_aloadn (pc' := 466) i0_465 rfl rfl <| ok_bipush (v := 21) (pc' := 468) i0_466 rfl rfl <| ok_iconst (pc' := 469) i0_468 rfl <| ok_iconst (pc' := 470) i0_469 rfl <| ok_iconst (pc' := 471) i0_470 rfl <| ?_
  refine ok_sipush (v := 1000) (pc' := 474) i0_471 rfl rfl <| ?_
  refine ok_cc i0_474 rfl (cl_s o0 m13_234 na211 rfl rfl (bt rfl) (bt rfl) rfl) ln211 (pd211 (aR O) (aI 21) (aI 1) (aI 1) (aI 0) (aI 1000)) <| (Ok.deep (t211_3 (k212_21 (lev := 2) (ShYard_k0 hWm30.1.y) (by omega) (y148_e hWm30 (by decide)))) (by omega)).mono (fun o9 g31t M31t p31t => ?_)
  obtain ⟨rfl, eg31, em31⟩ := p31t
  have H31 := MTx.f0 H30 (Fr.xx eg31 em31)
  clear eg31 em31
  have hYm31 := MTx.y H31
  have hWm31 := MTx.w H31
  refine kt_v (pc' := 477) rfl <| ok_iconst (pc' := 478) i0_477 rfl <| ok_kc0 (pc1 := 524) (pc2 := 481) i0_478 (by decide) rfl rfl <| ?_
  exact K _ _ (MTx.up H31 (by omega) (by omega))
/-- the end -/
theorem law_481 {g : AG} {M : AM} {O L : Nat} {d b : Int} {A : YA} {s q : Int → Int} {n z dd : Nat} {Q : AO → AG → AM → Prop} {tt : Int} (H : MTx g M O L d b A s q n z) (hret : ∀ (g1 : AG) (M1 : AM), gN g1 ≤ n + 22 → gS g1 ≤ z + 180 → Q (.inl (some (aI 1))) g1 M1) : Ok (dd + 22) 0 481 [aR 1, aR 100, aR 101, aR O, aI tt] [] g M Q := by
  have hYm := MTx.y H
  have hWm := MTx.w H
  have hV := hWm.2.1.v
  have hQ := V_q hV
  have y3 := V_3 hV
  have y4 := V_4 hV
  have y5 := V_5 hV
  have yq0 := Q_0 hQ
  have yq1 := Q_1 hQ
  refine ok_aloadn (pc' := 482) i0_481 rfl rfl <| ok_bipush (v := 17) (pc' := 484) i0_482 rfl rfl <| ok_aloadn (pc' := 485) i0_484 rfl rfl <| ok_getfi (v := (q 1)) (pc' := 488) i0_485 o0 gi13_257 (hYm.gr.ky) (hYm.mr.q1) rfl <| ok_iconst (pc' := 489) i0_488 rfl <| ok_iconst (pc' := 490) i0_489 rfl <| ok_iconst (pc' := 491) i0_490 rfl <| ?_
  refine ok_cc i0_491 rfl (cl_s o0 m13_234 na211 rfl rfl (bt rfl) (bt rfl) rfl) ln211 (pd211 (aR O) (aI 17) (aI (q 1)) (aI 0) (aI 0) (aI 0)) <| (Ok.deep (t211_2 (k212_17 (lev := 3) (ShYard_k0 hWm.1.y) (by omega) (y144_x0 (Y := O) (P := O + 38) (A := O + 49) (V := O + 73) (T := O + 74) (K := O + 100) (H := O + 102) (X := O + 346) (x1 := q 1) (x2 := 0) hWm.1.y hWm.1.w hWm.1.p hWm.1.s hWm.2.1.p hWm.2.1.s hQ hV ⟨Int.le_refl _, by omega⟩ hWm.2.1.l))) (by omega)).mono (fun o9 g32t M32t p32t => ?_)
  obtain ⟨rfl, eg32, em32⟩ := p32t
  have H32 := MTx.f0 H (Fr.xx eg32 em32)
  clear eg32 em32
  have hYm32 := MTx.y H32
  have hWm32 := MTx.w H32
  refine kt_v (pc' := 494) rfl <| ok_iconst (pc' := 495) i0_494 rfl <| ok_kc0 (pc1 := 524) (pc2 := 498) i0_495 (by decide) rfl rfl <| ok_aloadn (pc' := 499) i0_498 rfl rfl <| ok_bipush (v := 24) (pc' := 501) i0_499 rfl rfl <| ok_iconst (pc' := 502) i0_501 rfl <| ok_iconst (pc' := 503) i0_502 rfl <| ok_iconst (pc' := 504) i0_503 rfl <| ?_
  refine ok_iconst (pc' := 505) i0_504 rfl <| ?_
  refine ok_cc i0_505 rfl (cl_s o0 m13_234 na211 rfl rfl (bt rfl) (bt rfl) rfl) ln211 (pd211 (aR O) (aI 24) (aI 2) (aI 1) (aI 0) (aI 0)) <| (Ok.deep (t211_3 (k212_24 (lev := 2) (ShYard_k0 hWm32.1.y) (by omega) (y151_x2 (Y := O) (P := O + 38) (A := O + 49) (V := O + 73) (T := O + 74) (K := O + 100) (H := O + 102) (X := O + 346) hWm32.1.y hWm32.1.w hWm32.1.p hWm32.1.s hWm32.2.1.p hWm32.2.1.s hQ hV hWm32.2.1.l))) (by omega)).mono (fun o9 g33t M33t p33t => ?_)
  obtain ⟨rfl, eg33, em33⟩ := p33t
  have H33 := MTx.f0 H32 (Fr.xx eg33 em33)
  clear eg33 em33
  have hYm33 := MTx.y H33
  have hWm33 := MTx.w H33
  refine kt_v (pc' := 508) rfl <| ok_iconst (pc' := 509) i0_508 rfl <| ok_kc0 (pc1 := 524) (pc2 := 512) i0_509 (by decide) rfl rfl <| ok_aloadn (pc' := 513) i0_512 rfl rfl <| ok_aloadn (pc' := 514) i0_513 rfl rfl <| ?_
  refine ok_cc i0_514 rfl (cl_s o0 m13_381 na213 rfl rfl (bt rfl) (bt rfl) rfl) ln213 (pd213 (aR O) (aR 101)) <| (Ok.deep (t213 hYm33 hWm33) (by omega)).mono (fun o9 g34L M34L p34L => ?_)
  obtain ⟨rfl, e34L, _, _⟩ := p34L
  have H34 := MTx.f0 H33 e34L
  have hYm34 := MTx.y H34
  have hWm34 := MTx.w H34
  refine kt_v (pc' := 517) rfl <| ok_kz0 (pc1 := 524) (pc2 := 520) i0_517 (by decide) rfl rfl <| ok_iconst (pc' := 521) i0_520 rfl <| ok_goto (pc' := 525) i0_521 rfl <| ok_iretz i0_525 rt0 (by decide) <| ?_
  have h9 := MTx.up H34 (n' := n + 22) (z' := z + 180) (by omega) (by omega)
  exact hret _ _ h9.2.2.2.2.2.2.2.1 h9.2.2.2.2.2.2.2.2
