/-! TEXTS: together (by program, wip/p60/gen) -/
theorem gr13_348 : am_gfr 13 348 17 3 = true := by decide +kernel
theorem rt218 : am_rt 218 = some .boolean := by decide +kernel
theorem ck13_321 : am_csk 13 321 18 = true := by decide +kernel
theorem m13_324 : am_mlk 13 324 2 186 = true := by decide +kernel
theorem na186 : am_na 186 = 0 := by decide +kernel
theorem nl186 : am_nL 186 = 1 := by decide +kernel
theorem pd186 : ∀ a0 : AV, am_pad 186 [a0] = [a0] := by intros; unfold am_pad; rw [nl186]; rfl
theorem ln186 : 1 ≤ am_nL 186 := by rw [nl186]; decide
theorem w218_275 {g : AG} {M : AM} {O : Nat} {A : YA} {s q : Int → Int} {b : Int} {d : Nat} {Q : AO → AG → AM → Prop} {B : Nat} {w4 : AV} (hY : Yd g M O A s q) (hW : CW g M O b q s) (hw4 : am_cat w4 = 1) (K : ∀ (k : Int) (w4 : AV), am_cat w4 = 1 → Ok (d + 14) 218 325 [aR O, aR 101, aR B, aI k, w4] [] g M Q) : Ok (d + 14) 218 275 [aR O, aR 101, aR B, aI 0, w4] [] g M Q := by
  have hV := hW.2.1.v
  have hQ := V_q hV
  have y3 := V_3 hV
  have y4 := V_4 hV
  have y5 := V_5 hV
  have yq0 := Q_0 hQ
  have yq1 := Q_1 hQ
  refine ok_lp (σ := Int) (fun k ls g9 M9 => (0 ≤ k ∧ k ≤ s 5) ∧ g9 = g ∧ M9 = M ∧ ∃ w4 : AV, am_cat w4 = 1 ∧ ls = [aR O, aR 101, aR B, aI k, w4]) (fun k => (s 5 - k).toNat) ?_ 0 _ g M ⟨by omega, rfl, rfl, w4, hw4, rfl⟩
  rintro k ls g9 M9 ⟨hk, rfl, rfl, w4, hw4, rfl⟩ ih
  refine ok_iloadn (pc' := 276) i218_275 rfl rfl <| ok_aloadn (pc' := 277) i218_276 rfl rfl <| ok_getfi (v := (s 5)) (pc' := 280) i218_277 o218 gi13_161 (hY.gr.ky) ((Yd.n5 hY)) rfl <| ?_
  refine ok_cge (pc1 := 325) (pc2 := 283) i218_280 (by omega) rfl rfl (fun h1 => ?_) (fun h1 => ?_)
  · exact K _ w4 hw4
  · refine ok_iconst (pc' := 284) i218_283 rfl <| ok_istore (pc' := 286) (ls' := [aR O, aR 101, aR B, aI k, aI 0]) i218_284 (bt rfl) rfl rfl <| ok_iload (pc' := 288) i218_286 rfl rfl <| ok_iconst (pc' := 289) i218_288 rfl <| ok_kc0 (pc1 := 319) (pc2 := 292) i218_289 (by decide) rfl rfl <| ok_aloadn (pc' := 293) i218_292 rfl rfl <| ok_iloadn (pc' := 294) i218_293 rfl rfl <| ok_iload (pc' := 296) i218_294 rfl rfl <| ?_
    refine ok_cc i218_296 rfl (cl_v o218 m13_74 na138 rfl rfl (bt rfl) (bt rfl) rfl (by rw [(ShYard_k0 hW.1.y), o138])) ln138 (pd138 (aR O) (aI k) (aI 0)) <| (Ok.deep (y138_0 (Y := O) (P := O + 38) (A := O + 49) (V := O + 73) (T := O + 74) (K := O + 100) (H := O + 102) (X := O + 346) (x1 := k) hW.1.y hW.1.w hW.1.p hW.1.s hW.2.1.p hW.2.1.s hQ hV ⟨by omega, by omega⟩ (by omega) hW.2.1.l) (by omega)).mono (fun o9 g56q M56q p56q => ?_)
    obtain ⟨rfl, eg56q, em56q⟩ := p56q
    rw [eg56q, em56q]
    rw [show (743 + (4 * k) : Int) = ((743 + (4 * k)) + 0) by omega]
    refine kt_v (pc' := 299) rfl <| ok_aloadn (pc' := 300) i218_299 rfl rfl <| ok_getfr (r := 106) (pc' := 303) i218_300 o218 gr13_348 (hY.gr.ky) (hY.gr.r3) rfl <| ok_iloadn (pc' := 304) i218_303 rfl rfl <| ok_aaload (r := (gR g9 106 k)) (pc' := 305) i218_304 (hY.gr.k6) (by decide) (hY.gr.l6) (by omega) (rfl) rfl <| ok_iload (pc' := 307) i218_305 rfl rfl <| ok_iaload (v := (s ((743 + (4 * k)) + 0))) (pc' := 308) i218_307 ((hY.gr.cc k (by omega) (by omega)).2.1) (by decide) ((hY.gr.cc k (by omega) (by omega)).2.2) (by decide) ((hY.ct k (by omega) (by omega) 0 (by omega) (by omega))) rfl <| ok_ceqs (pc1 := 313) (pc2 := 311) i218_308 rfl rfl <| ?_
    refine ok_iinc (pc' := 316) (v := 1) (ls' := [aR O, aR 101, aR B, aI k, aI 1]) i218_313 rfl rfl rfl rfl <| ok_goto (pc' := 286) i218_316 rfl <| ok_iload (pc' := 288) i218_286 rfl rfl <| ok_iconst (pc' := 289) i218_288 rfl <| ok_kc0 (pc1 := 319) (pc2 := 292) i218_289 (by decide) rfl rfl <| ok_aloadn (pc' := 293) i218_292 rfl rfl <| ok_iloadn (pc' := 294) i218_293 rfl rfl <| ok_iload (pc' := 296) i218_294 rfl rfl <| ?_
    refine ok_cc i218_296 rfl (cl_v o218 m13_74 na138 rfl rfl (bt rfl) (bt rfl) rfl (by rw [(ShYard_k0 hW.1.y), o138])) ln138 (pd138 (aR O) (aI k) (aI 1)) <| (Ok.deep (y138_1 (Y := O) (P := O + 38) (A := O + 49) (V := O + 73) (T := O + 74) (K := O + 100) (H := O + 102) (X := O + 346) (x1 := k) hW.1.y hW.1.w hW.1.p hW.1.s hW.2.1.p hW.2.1.s hQ hV ⟨by omega, by omega⟩ (by omega) hW.2.1.l) (by omega)).mono (fun o9 g57q M57q p57q => ?_)
    obtain ⟨rfl, eg57q, em57q⟩ := p57q
    rw [eg57q, em57q]
    refine kt_v (pc' := 299) rfl <| ok_aloadn (pc' := 300) i218_299 rfl rfl <| ok_getfr (r := 106) (pc' := 303) i218_300 o218 gr13_348 (hY.gr.ky) (hY.gr.r3) rfl <| ok_iloadn (pc' := 304) i218_303 rfl rfl <| ok_aaload (r := (gR g9 106 k)) (pc' := 305) i218_304 (hY.gr.k6) (by decide) (hY.gr.l6) (by omega) (rfl) rfl <| ok_iload (pc' := 307) i218_305 rfl rfl <| ok_iaload (v := (s ((743 + (4 * k)) + 1))) (pc' := 308) i218_307 ((hY.gr.cc k (by omega) (by omega)).2.1) (by decide) ((hY.gr.cc k (by omega) (by omega)).2.2) (by decide) ((hY.ct k (by omega) (by omega) 1 (by omega) (by omega))) rfl <| ok_ceqs (pc1 := 313) (pc2 := 311) i218_308 rfl rfl <| ?_
    refine ok_iinc (pc' := 316) (v := 2) (ls' := [aR O, aR 101, aR B, aI k, aI 2]) i218_313 rfl rfl rfl rfl <| ok_goto (pc' := 286) i218_316 rfl <| ok_iload (pc' := 288) i218_286 rfl rfl <| ok_iconst (pc' := 289) i218_288 rfl <| ok_kc0 (pc1 := 319) (pc2 := 292) i218_289 (by decide) rfl rfl <| ok_aloadn (pc' := 293) i218_292 rfl rfl <| ok_iloadn (pc' := 294) i218_293 rfl rfl <| ok_iload (pc' := 296) i218_294 rfl rfl <| ?_
    refine ok_cc i218_296 rfl (cl_v o218 m13_74 na138 rfl rfl (bt rfl) (bt rfl) rfl (by rw [(ShYard_k0 hW.1.y), o138])) ln138 (pd138 (aR O) (aI k) (aI 2)) <| (Ok.deep (y138_2 (Y := O) (P := O + 38) (A := O + 49) (V := O + 73) (T := O + 74) (K := O + 100) (H := O + 102) (X := O + 346) (x1 := k) hW.1.y hW.1.w hW.1.p hW.1.s hW.2.1.p hW.2.1.s hQ hV ⟨by omega, by omega⟩ (by omega) hW.2.1.l) (by omega)).mono (fun o9 g58q M58q p58q => ?_)
    obtain ⟨rfl, eg58q, em58q⟩ := p58q
    rw [eg58q, em58q]
    refine kt_v (pc' := 299) rfl <| ok_aloadn (pc' := 300) i218_299 rfl rfl <| ok_getfr (r := 106) (pc' := 303) i218_300 o218 gr13_348 (hY.gr.ky) (hY.gr.r3) rfl <| ok_iloadn (pc' := 304) i218_303 rfl rfl <| ok_aaload (r := (gR g9 106 k)) (pc' := 305) i218_304 (hY.gr.k6) (by decide) (hY.gr.l6) (by omega) (rfl) rfl <| ok_iload (pc' := 307) i218_305 rfl rfl <| ok_iaload (v := (s ((743 + (4 * k)) + 2))) (pc' := 308) i218_307 ((hY.gr.cc k (by omega) (by omega)).2.1) (by decide) ((hY.gr.cc k (by omega) (by omega)).2.2) (by decide) ((hY.ct k (by omega) (by omega) 2 (by omega) (by omega))) rfl <| ok_ceqs (pc1 := 313) (pc2 := 311) i218_308 rfl rfl <| ?_
    refine ok_iinc (pc' := 316) (v := 3) (ls' := [aR O, aR 101, aR B, aI k, aI 3]) i218_313 rfl rfl rfl rfl <| ok_goto (pc' := 286) i218_316 rfl <| ok_iload (pc' := 288) i218_286 rfl rfl <| ok_iconst (pc' := 289) i218_288 rfl <| ok_kc0 (pc1 := 319) (pc2 := 292) i218_289 (by decide) rfl rfl <| ok_aloadn (pc' := 293) i218_292 rfl rfl <| ok_iloadn (pc' := 294) i218_293 rfl rfl <| ok_iload (pc' := 296) i218_294 rfl rfl <| ?_
    refine ok_cc i218_296 rfl (cl_v o218 m13_74 na138 rfl rfl (bt rfl) (bt rfl) rfl (by rw [(ShYard_k0 hW.1.y), o138])) ln138 (pd138 (aR O) (aI k) (aI 3)) <| (Ok.deep (y138_3 (Y := O) (P := O + 38) (A := O + 49) (V := O + 73) (T := O + 74) (K := O + 100) (H := O + 102) (X := O + 346) (x1 := k) hW.1.y hW.1.w hW.1.p hW.1.s hW.2.1.p hW.2.1.s hQ hV ⟨by omega, by omega⟩ (by omega) hW.2.1.l) (by omega)).mono (fun o9 g59q M59q p59q => ?_)
    obtain ⟨rfl, eg59q, em59q⟩ := p59q
    rw [eg59q, em59q]
    refine kt_v (pc' := 299) rfl <| ok_aloadn (pc' := 300) i218_299 rfl rfl <| ok_getfr (r := 106) (pc' := 303) i218_300 o218 gr13_348 (hY.gr.ky) (hY.gr.r3) rfl <| ok_iloadn (pc' := 304) i218_303 rfl rfl <| ok_aaload (r := (gR g9 106 k)) (pc' := 305) i218_304 (hY.gr.k6) (by decide) (hY.gr.l6) (by omega) (rfl) rfl <| ok_iload (pc' := 307) i218_305 rfl rfl <| ok_iaload (v := (s ((743 + (4 * k)) + 3))) (pc' := 308) i218_307 ((hY.gr.cc k (by omega) (by omega)).2.1) (by decide) ((hY.gr.cc k (by omega) (by omega)).2.2) (by decide) ((hY.ct k (by omega) (by omega) 3 (by omega) (by omega))) rfl <| ok_ceqs (pc1 := 313) (pc2 := 311) i218_308 rfl rfl <| ?_
    refine ok_iinc (pc' := 316) (v := 4) (ls' := [aR O, aR 101, aR B, aI k, aI 4]) i218_313 rfl rfl rfl rfl <| ok_goto (pc' := 286) i218_316 rfl <| ok_iload (pc' := 288) i218_286 rfl rfl <| ok_iconst (pc' := 289) i218_288 rfl <| ok_kc1 (pc1 := 319) (pc2 := 292) i218_289 (by decide) rfl rfl <| ok_iinc (pc' := 322) (v := (k + 1)) (ls' := [aR O, aR 101, aR B, aI (k + 1), aI 4]) i218_319 rfl rfl rfl rfl <| ok_goto (pc' := 275) i218_322 rfl <| ?_
    exact ih (k + 1) _ _ _ (by omega) ⟨by omega, rfl, rfl, _, rfl, rfl⟩
theorem w218_325 {g : AG} {M : AM} {O : Nat} {A : YA} {s q : Int → Int} {b : Int} {d : Nat} {Q : AO → AG → AM → Prop} {B : Nat} {k : Int} {w4 : AV} (hY : Yd g M O A s q) (hW : CW g M O b q s) (hret : ∀ (g1 : AG) (M1 : AM), Yd g1 M1 O A s q → CW g1 M1 O b q s → Fr FN 1 6 g M g1 M1 → Q (.inl (some (aI 1))) g1 M1) : Ok (d + 14) 218 325 [aR O, aR 101, aR B, aI k, w4] [] g M Q := by
  have hV := hW.2.1.v
  have hQ := V_q hV
  have y3 := V_3 hV
  have y4 := V_4 hV
  have y5 := V_5 hV
  have yq0 := Q_0 hQ
  have yq1 := Q_1 hQ
  have f0 : Fr FN 0 0 g M g M := Fr.rfl
  refine ok_aloadn (pc' := 326) i218_325 rfl rfl <| ok_bipush (v := 13) (pc' := 328) i218_326 rfl rfl <| ok_aloadn (pc' := 329) i218_328 rfl rfl <| ok_getfi (v := (s 5)) (pc' := 332) i218_329 o218 gi13_161 (hY.gr.ky) ((Yd.n5 hY)) rfl <| ok_iconst (pc' := 333) i218_332 rfl <| ok_iconst (pc' := 334) i218_333 rfl <| ok_iconst (pc' := 335) i218_334 rfl <| ?_
  refine ok_cc i218_335 rfl (cl_s o218 m13_234 na211 rfl rfl (bt rfl) (bt rfl) rfl) ln211 (pd211 (aR O) (aI 13) (aI (s 5)) (aI 0) (aI 0) (aI 0)) <| (Ok.deep (t211_2 (k212_13 (lev := 1) (ShYard_k0 hW.1.y) (by omega) (y138_x (Y := O) (P := O + 38) (A := O + 49) (V := O + 73) (T := O + 74) (K := O + 100) (H := O + 102) (X := O + 346) (x1 := s 5) hW.1.y hW.1.w hW.1.p hW.1.s hW.2.1.p hW.2.1.s hQ hV ⟨by omega, by omega⟩ (by omega) hW.2.1.l))) (by omega)).mono (fun o9 g60t M60t p60t => ?_)
  obtain ⟨rfl, eg60t, em60t⟩ := p60t
  have et60 := Fr.xx eg60t em60t
  have hYc1 := Yd.f0 hY et60
  have hWc1 := CW.f0 hW et60
  have f1 := Fr.trans f0 (Fr.of0 et60)
  refine kt_v (pc' := 338) rfl <| ok_iconst (pc' := 339) i218_338 rfl <| ok_kc0 (pc1 := 346) (pc2 := 342) i218_339 (by decide) rfl rfl <| ok_iconst (pc' := 343) i218_342 rfl <| ok_goto (pc' := 347) i218_343 rfl <| ok_iretz i218_347 rt218 (by decide) <| ?_
  exact hret _ _ hYc1 hWc1 f1
theorem w218_0 {g : AG} {M : AM} {O : Nat} {A : YA} {s q : Int → Int} {b : Int} {d : Nat} {Q : AO → AG → AM → Prop} (hY : Yd g M O A s q) (hW : CW g M O b q s) (hBS : BS g M) (K : ∀ (g1 : AG) (M1 : AM) (B V : Nat), TS g M O b q s g1 M1 B V 16 t00 2 64 → Ok (d + 14) 218 10 [aR O, aR 101, aR B, aI 0, aU] [] g1 M1 Q) : Ok (d + 14) 218 0 [aR O, aR 101, aU, aU, aU] [] g M Q := by
  refine ok_nw (sl := 4) (pc' := 3) i218_0 o218 ck13_321 (by decide) (by decide) rfl (fun B g1 M1 hx hn hA e => ?_)
  refine ok_dup (pc' := 4) i218_3 rfl rfl <| ?_
  refine ok_cc i218_4 rfl (cl_i o218 (Or.inl m13_324) na186 rfl rfl (bt rfl) (bt rfl) rfl (by rw [hA.1]; decide)) ln186 (pd186 (aR B)) <| (Ok.deep (sbN hA rfl (by omega) (by omega)) (by omega)).mono (fun o9 g2 M2 p2 => ?_)
  obtain ⟨rfl, V, hV1, hS, e2⟩ := p2
  have hT := TS.new hx hn e (by decide) hV1 hS e2 hY.gr.o hW hBS
  refine kt_0 (pc' := 7) rfl <| ok_astoren (pc' := 8) (ls' := [aR O, aR 101, aR B, aU, aU]) i218_7 (bt rfl) rfl rfl <| ok_iconst (pc' := 9) i218_8 rfl <| ok_istoren (pc' := 10) (ls' := [aR O, aR 101, aR B, aI 0, aU]) i218_9 (bt rfl) rfl rfl <| ?_
  exact K _ _ _ _ hT
/-- the texts, the log -/
theorem t218 {g : AG} {M : AM} {O : Nat} {A : YA} {s q : Int → Int} {b : Int} (hY : Yd g M O A s q) (hW : CW g M O b q s) (hBS : BS g M) (h40 : s 3 ≤ 40) : Ok 14 218 0 [aR O, aR 101, aU, aU, aU] [] g M (fun o g1 M1 => o = .inl (some (aI 1)) ∧ Fr (FC O) 461 4172 g M g1 M1 ∧ Yd g1 M1 O A s q ∧ CW g1 M1 O b q s) := by
  have hV := hW.2.1.v
  refine w218_0 (d := 0) hY hW hBS (fun g1 M1 B V hT => ?_)
  refine w218_10 (d := 0) hY hV h40 hT (fun g1 M1 V C hT => ?_)
  refine w218_95 (d := 0) hY hV h40 hT (fun g1 M1 V C t hT => ?_)
  refine w218_132 (d := 0) hY hV h40 hT (fun g1 M1 V C t w4 hw4 hT => ?_)
  have hY2 := TS.y hT hY
  have hW2 := TS.w hT
  have hc2 := TS.c hT
  refine ok_iconst (pc' := 274) i218_273 rfl <| ok_istoren (pc' := 275) (ls' := [aR O, aR 101, aR B, aI 0, w4]) i218_274 (bt rfl) rfl rfl <| ?_
  refine w218_275 (d := 0) hY2 hW2 hw4 (fun k w4 hw4 => ?_)
  exact w218_325 (d := 0) hY2 hW2 (fun g3 M3 hY3 hW3 f3 => ⟨rfl, Fr.w (Fr.trans hT.f f3.of0) (by omega) (by omega), hY3, hW3⟩)
