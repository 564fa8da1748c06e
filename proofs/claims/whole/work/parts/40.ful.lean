/-! FILLING (by program, wip/gen) -/
theorem tr225 {g : AG} {M : AM} {O : Nat} {s q : Int → Int} {b : Int} {x1 : Int} (hSO : ShModel g O) (hRO : RepO M O q s) (hV : Val b q s) (hQ : ValQ q) (h1 : 0 ≤ x1 ∧ x1 < q 1) : Ok 2 225 0 [aR O, aI x1, aU, aU, aU] [] g M (Rt (some (aI (r38 q s x1))) g (fun M9 => M9 = M)) := by
  rw [← e_225 hV h1]
  exact t225 hSO hRO hV hQ h1
theorem xr225 {g : AG} {M : AM} {O : Nat} {s q : Int → Int} {b : Int} {x1 : Int} (hSO : ShModel g O) (hRO : RepO M O q s) (hV : Val b q s) (hQ : ValQ q) (h1 : 0 ≤ x1 ∧ x1 < q 1) : -1 ≤ (r38 q s x1) ∧ (r38 q s x1) < s 3 ∧ (r38 q s x1) < 80 := by
  rw [← e_225 hV h1]
  exact x225 hSO hRO hV hQ h1
theorem tr227 {g : AG} {M : AM} {O : Nat} {s q : Int → Int} {b : Int} {x1 : Int} (hSO : ShModel g O) (hRO : RepO M O q s) (hV : Val b q s) (hQ : ValQ q) (h1 : 0 ≤ x1 ∧ x1 < q 1) : Ok 2 227 0 [aR O, aI x1, aU, aU, aU, aU] [] g M (Rt (some (aI (r39 q s x1))) g (fun M9 => M9 = M)) := t227 hSO hRO hV hQ h1
theorem xr227 {g : AG} {M : AM} {O : Nat} {s q : Int → Int} {b : Int} {x1 : Int} (hSO : ShModel g O) (hRO : RepO M O q s) (hV : Val b q s) (hQ : ValQ q) (h1 : 0 ≤ x1 ∧ x1 < q 1) : 0 ≤ (r39 q s x1) ∧ (r39 q s x1) ≤ 1 := x227 hSO hRO hV hQ h1
theorem o236 : am_oc 236 = 9 := by decide +kernel
theorem m9_280 : am_mlk 9 280 0 227 = true := by decide +kernel
theorem na227 : am_na 227 = 1 := by decide +kernel
theorem nl227 : am_nL 227 = 6 := by decide +kernel
theorem pd227 : ∀ a0 a1 : AV, am_pad 227 [a0, a1] = [a0, a1, aU, aU, aU, aU] := by intros; unfold am_pad; rw [nl227]; rfl
theorem ln227 : 2 ≤ am_nL 227 := by rw [nl227]; decide
theorem m9_302 : am_mlk 9 302 0 237 = true := by decide +kernel
theorem na237 : am_na 237 = 2 := by decide +kernel
theorem nl237 : am_nL 237 = 5 := by decide +kernel
theorem pd237 : ∀ a0 a1 a2 : AV, am_pad 237 [a0, a1, a2] = [a0, a1, a2, aU, aU] := by intros; unfold am_pad; rw [nl237]; rfl
theorem ln237 : 3 ≤ am_nL 237 := by rw [nl237]; decide
theorem m9_277 : am_mlk 9 277 0 225 = true := by decide +kernel
theorem na225 : am_na 225 = 1 := by decide +kernel
theorem nl225 : am_nL 225 = 5 := by decide +kernel
theorem pd225 : ∀ a0 a1 : AV, am_pad 225 [a0, a1] = [a0, a1, aU, aU, aU] := by intros; unfold am_pad; rw [nl225]; rfl
theorem ln225 : 2 ≤ am_nL 225 := by rw [nl225]; decide
theorem gi9_206 : am_gfi 9 206 9 3 = true := by decide +kernel
theorem rt236 : am_rt 236 = none := by decide +kernel
theorem m9_305 : am_mlk 9 305 0 236 = true := by decide +kernel
theorem na236 : am_na 236 = 0 := by decide +kernel
theorem nl236 : am_nL 236 = 4 := by decide +kernel
theorem pd236 : ∀ a0 : AV, am_pad 236 [a0] = [a0, aU, aU, aU] := by intros; unfold am_pad; rw [nl236]; rfl
theorem ln236 : 1 ≤ am_nL 236 := by rw [nl236]; decide
theorem o41 : am_oc 41 = 8 := by decide +kernel
theorem m8_103 : am_mlk 8 103 0 46 = true := by decide +kernel
theorem na46 : am_na 46 = 1 := by decide +kernel
theorem nl46 : am_nL 46 = 5 := by decide +kernel
theorem pd46 : ∀ a0 a1 : AV, am_pad 46 [a0, a1] = [a0, a1, aU, aU, aU] := by intros; unfold am_pad; rw [nl46]; rfl
theorem ln46 : 2 ≤ am_nL 46 := by rw [nl46]; decide
theorem rt41 : am_rt 41 = some .int := by decide +kernel
theorem m8_99 : am_mlk 8 99 0 42 = true := by decide +kernel
theorem na42 : am_na 42 = 0 := by decide +kernel
theorem nl42 : am_nL 42 = 5 := by decide +kernel
theorem pd42 : ∀ a0 : AV, am_pad 42 [a0] = [a0, aU, aU, aU, aU] := by intros; unfold am_pad; rw [nl42]; rfl
theorem ln42 : 1 ≤ am_nL 42 := by rw [nl42]; decide
theorem w236_16 {d : Nat} {Q : AO → AG → AM → Prop} {g : AG} {M : AM} {O : Nat} {q s t0 : Int → Int} {b x0 x1 : Int} {w3 : AV} (hSO : ShModel g O) (hRO : RepO M O q t0) (hQ : ValQ q) (hA : Aft b q s (t0, x0)) (hp : 0 ≤ x1 ∧ x1 < q 1) (hb : b + 6 ≤ 1000000) (hw3 : am_cat w3 = 1)
    (K : ∀ (M1 : AM) (w2 w3 : AV), am_cat w2 = 1 → am_cat w3 = 1 → M1 = upM M (O + 5) (pfX q x1 (t0, x0)).1 → Ok (d + 5) 236 45 [aR O, aI x1, w2, w3] [] g M1 Q) :
    Ok (d + 5) 236 16 [aR O, aI x1, aI (r38 q t0 x1), w3] [] g M Q := by
  have yq1 := Q_1 hQ
  have yq10 := Q_10 hQ hp.1 hp.2
  refine ok_while (σ := (Int → Int) × Int) (fun a ls M9 => ∃ x : Int, (0 ≤ x ∧ x ≤ 144) ∧ itx (pfF q x1) (t0, x0) 0 x.toNat = .inl a ∧ M9 = upM M (O + 5) a.1 ∧ Aft b q s a ∧ r20 a.1 ≤ 144 - x ∧ ∃ w3 : AV, am_cat w3 = 1 ∧ ls = [aR O, aI x1, aI (r38 q a.1 x1), w3]) (fun a => (r20 a.1).toNat) ?_ (t0, x0) _ M ⟨0, by omega, rfl, by rw [← hRO.1]; exact upM_self.symm, hA, by have := r20_rg hA.1; omega, w3, hw3, rfl⟩
  rintro ⟨t, c⟩ ls M9 ⟨x, hi, e, hM, hA9, hl, w3, hw3, rfl⟩ ih
  dsimp only at hM hl ⊢
  have hV9 : Val b q t := hA9.1
  have hR9 : RepO M9 O q t := by rw [hM]; exact RepO.upm hRO
  have yt3 := V_3 hV9
  have yt4 := V_4 hV9
  have y38 := xr225 (x1 := x1) hSO hR9 hV9 hQ hp
  refine ok_iloadn (pc' := 17) i236_16 rfl rfl <| ok_iconst (pc' := 18) i236_17 rfl <| ?_
  refine ok_ceq (pc1 := 45) (pc2 := 21) i236_18 (by omega) rfl rfl (fun h1 => ?_) (fun h1 => ?_)
  · have e3 := pf_end (b := b) (s := s) hi e (Or.inr (show r38 q t x1 = -1 by omega))
    rw [e3] at K
    exact K _ _ _ rfl hw3 hM
  · refine ok_aloadn (pc' := 22) i236_21 rfl rfl <| ok_iloadn (pc' := 23) i236_22 rfl rfl <| ok_cp (pc' := 26) (d0 := 2) i236_23 rfl (cl_v o236 m9_280 na227 rfl rfl (bt rfl) (bt rfl) rfl (by rw [ShModel_k0 hSO, o227])) ln227 (pd227 (aR O) (aI x1)) (by omega) (tr227 (x1 := x1) hSO hR9 hV9 hQ (by omega)) rfl <| ?_
    have z61 : 0 ≤ (r39 q t x1) ∧ (r39 q t x1) ≤ 1 := xr227 (M := M9) (x1 := x1) hSO hR9 hV9 hQ (by omega)
    refine ok_zeq (pc1 := 45) (pc2 := 29) i236_26 (by omega) rfl rfl (fun h2 => ?_) (fun h2 => ?_)
    · have e3 := pf_end (b := b) (s := s) hi e (Or.inl (show r39 q t x1 = 0 by omega))
      rw [e3] at K
      exact K _ _ _ rfl hw3 hM
    · refine ok_aloadn (pc' := 30) i236_29 rfl rfl <| ok_iloadn (pc' := 31) i236_30 rfl rfl <| ok_iloadn (pc' := 32) i236_31 rfl rfl <| ?_
      have z62 : 0 ≤ (r38 q t x1) ∧ (r38 q t x1) < t 3 := by have h8 := p_38 hV9 (p := x1) (by omega); omega
      have hf8 := (p_38 hV9 (p := x1) (by omega)).2.2
      refine ok_cn (pc' := 35) (d0 := 4) i236_32 rfl (cl_v o236 m9_302 na237 rfl rfl (bt rfl) (bt rfl) rfl (by rw [ShModel_k0 hSO, o237])) ln237 (pd237 (aR O) (aI x1) (aI (r38 q t x1))) (by omega) (t237 (x1 := x1) (x2 := (r38 q t x1)) hSO hR9 hV9 hQ (by omega) (by omega) hf8 (by omega)) rfl (fun M3 p4 => ?_)
      obtain ⟨s3, hs3⟩ : ∃ u9 : Int → Int, u9 = (patS q t x1 (r38 q t x1)) := ⟨_, rfl⟩
      rw [← hs3] at p4
      have hRM3 : RepO M3 O q s3 := by rw [p4]; exact RepO.upm hR9
      have hVM3 : Val (b) q s3 := by rw [hs3]; exact (pf_go (s := s) (p := x1) (a := (t, c)) hA9 hp (by show r39 q t x1 ≠ 0; omega) (by show r38 q t x1 ≠ -1; omega)).1.1
      have z63 : 0 ≤ s3 3 ∧ s3 3 ≤ 80 := V_3 hVM3
      have z64 : 0 ≤ s3 4 ∧ s3 4 ≤ 16 := V_4 hVM3
      refine ok_istoren (pc' := 36) (ls' := [aR O, aI x1, aI (r38 q t x1), aI (patN q t x1 (r38 q t x1))]) i236_35 (bt rfl) rfl rfl <| ok_aloadn (pc' := 37) i236_36 rfl rfl <| ok_iloadn (pc' := 38) i236_37 rfl rfl <| ok_cp (pc' := 41) (d0 := 2) i236_38 rfl (cl_v o236 m9_277 na225 rfl rfl (bt rfl) (bt rfl) rfl (by rw [ShModel_k0 hSO, o225])) ln225 (pd225 (aR O) (aI x1)) (by omega) (tr225 (x1 := x1) hSO hRM3 hVM3 hQ (by omega)) rfl <| ?_
      have z65 : -1 ≤ (r38 q s3 x1) ∧ (r38 q s3 x1) < s3 3 ∧ (r38 q s3 x1) < 80 := xr225 (M := M3) (x1 := x1) hSO hRM3 hVM3 hQ (by omega)
      refine ok_istoren (pc' := 42) (ls' := [aR O, aI x1, aI (r38 q s3 x1), aI (patN q t x1 (r38 q t x1))]) i236_41 (bt rfl) rfl rfl <| ok_goto (pc' := 16) i236_42 rfl <| ?_
      have hgo := pf_go (s := s) (p := x1) (a := (t, c)) hA9 hp (by show r39 q t x1 ≠ 0; omega) (by show r38 q t x1 ≠ -1; omega)
      have hrg := r20_rg hgo.1.1
      have h20 : r20 (patS q t x1 (r38 q t x1)) = r20 t - q (10 + x1) := hgo.2.1
      have hrg2 : 0 ≤ r20 (patS q t x1 (r38 q t x1)) := hrg.1
      have hlt : (r20 (patS q t x1 (r38 q t x1))).toNat < (r20 t).toNat := by omega
      have hle : r20 (patS q t x1 (r38 q t x1)) ≤ 144 - (x + 1) := by omega
      have hst := pf_step (a := (t, c)) hi.1 e (by show r39 q t x1 ≠ 0; omega) (by show r38 q t x1 ≠ -1; omega)
      dsimp only at hst
      have hx : 0 ≤ x + 1 ∧ x + 1 ≤ 144 := by omega
      refine ih (patS q t x1 (r38 q t x1), c + q (10 + x1)) _ _ hlt ⟨x + 1, hx, hst, ?_, hgo.1, hle, ?_⟩
      · rw [p4, hM, upM_upM, hs3]
      · exact ⟨aI _, rfl, by rw [hs3]⟩
theorem t236 {g : AG} {M : AM} {O : Nat} {s q : Int → Int} {b : Int} (hSO : ShModel g O) (hRO : RepO M O q s) (hV : Val b q s) (hQ : ValQ q) (hb : b + 6 ≤ 1000000) :
    Ok 5 236 0 [aR O, aU, aU, aU] [] g M (Rt none g (fun M9 => M9 = upM M (O + 5) (pfS q s))) := by
  have yq1 := Q_1 hQ
  refine ok_iconst (pc' := 1) i236_0 rfl <| ok_istoren (pc' := 2) (ls' := [aR O, aI 0, aU, aU]) i236_1 (bt rfl) rfl rfl <| ?_
  refine ok_for (lo := 0) (n := (q 1).toNat) (f := pfX q) (a0 := (s, 0)) (fun x1 a ls M9 => M9 = upM M (O + 5) a.1 ∧ Aft b q s a ∧ ∃ w2 w3 : AV, am_cat w2 = 1 ∧ am_cat w3 = 1 ∧ ls = [aR O, aI x1, w2, w3]) ?_ ?_ _ _ ⟨by rw [← hRO.1]; exact upM_self.symm, ⟨hV, rfl, rfl, by show s 11 = s 11 + 0; omega⟩, aU, aU, rfl, rfl, rfl⟩
  · rintro x1 ⟨t, c⟩ ls M9 g1 g2 ⟨hM, hA9, w2, w3, hw2, hw3, rfl⟩ ih
    dsimp only at hM
    have hV9 : Val b q t := hA9.1
    have hR9 : RepO M9 O q t := by rw [hM]; exact RepO.upm hRO
    have yt3 := V_3 hV9
    have yt4 := V_4 hV9
    have g3 : x1 < q 1 := by omega
    refine ok_iloadn (pc' := 3) i236_2 rfl rfl <| ok_aloadn (pc' := 4) i236_3 rfl rfl <| ok_getfi (v := (q 1)) (pc' := 7) i236_4 o236 gi9_206 (ShModel_k0 hSO) (RepO_f3 hR9) rfl <| ?_
    refine ok_cge (pc1 := 51) (pc2 := 10) i236_7 (by omega) rfl rfl (fun h9 => by exfalso; omega) (fun h1 => ?_)
    refine ok_aloadn (pc' := 11) i236_10 rfl rfl <| ok_iloadn (pc' := 12) i236_11 rfl rfl <| ok_cp (pc' := 15) (d0 := 2) i236_12 rfl (cl_v o236 m9_277 na225 rfl rfl (bt rfl) (bt rfl) rfl (by rw [ShModel_k0 hSO, o225])) ln225 (pd225 (aR O) (aI x1)) (by omega) (tr225 (x1 := x1) hSO hR9 hV9 hQ (by omega)) rfl <| ?_
    have z61 : -1 ≤ (r38 q t x1) ∧ (r38 q t x1) < t 3 ∧ (r38 q t x1) < 80 := xr225 (M := M9) (x1 := x1) hSO hR9 hV9 hQ (by omega)
    refine ok_istoren (pc' := 16) (ls' := [aR O, aI x1, aI (r38 q t x1), w3]) i236_15 (bt rfl) rfl rfl <| ?_
    refine w236_16 hSO hR9 hQ hA9 ⟨by omega, by omega⟩ (by omega) hw3 (fun M1 w5 w6 hw5 hw6 hM1 => ?_)
    refine ok_iinc (pc' := 48) (v := (x1 + 1)) (ls' := [aR O, aI (x1 + 1), w5, w6]) i236_45 rfl rfl rfl rfl <| ok_goto (pc' := 2) i236_48 rfl <| ?_
    exact ih _ _ ⟨by rw [hM1, hM, upM_upM], pfX_aft ⟨by omega, by omega⟩ hA9, _, _, hw5, hw6, rfl⟩
  · rintro x1 ⟨t, c⟩ ls M9 g1 g2 ⟨hM, hA9, w2, w3, hw2, hw3, rfl⟩
    dsimp only at hM
    have hV9 : Val b q t := hA9.1
    have hR9 : RepO M9 O q t := by rw [hM]; exact RepO.upm hRO
    have yt3 := V_3 hV9
    have yt4 := V_4 hV9
    have g3 : x1 = q 1 := by omega
    refine ok_iloadn (pc' := 3) i236_2 rfl rfl <| ok_aloadn (pc' := 4) i236_3 rfl rfl <| ok_getfi (v := (q 1)) (pc' := 7) i236_4 o236 gi9_206 (ShModel_k0 hSO) (RepO_f3 hR9) rfl <| ?_
    refine ok_cge (pc1 := 51) (pc2 := 10) i236_7 (by omega) rfl rfl (fun h1 => ?_) (fun h9 => by exfalso; omega)
    refine ok_vret i236_51 rt236 <| ?_
    exact ⟨rfl, rfl, by unfold pfS pfL; rw [g2]; exact hM⟩
theorem t235 {g : AG} {M : AM} {O : Nat} {s q : Int → Int} {b : Int} {x1 : Int} (hSO : ShModel g O) (hRO : RepO M O q s) (hV : Val b q s) (hQ : ValQ q) (h1 : 0 ≤ x1 ∧ x1 < 4) (hb : b + 6 ≤ 1000000) :
    Ok 6 235 0 [aR O, aI x1, aU, aU, aU, aU] [] g M (Rt (some (aI (fulN q s x1))) g (fun M9 => M9 = upM M (O + 5) (fulS q s x1))) := by
  have ys3 : 0 ≤ s 3 ∧ s 3 ≤ 80 := V_3 hV
  have ys4 : 0 ≤ s 4 ∧ s 4 ≤ 16 := V_4 hV
  have yq0 : 0 ≤ q 0 ∧ q 0 ≤ 4 := Q_0 hQ
  have yq1 : 0 ≤ q 1 ∧ q 1 ≤ 6 := Q_1 hQ
  refine ok_aloadn (pc' := 1) i235_0 rfl rfl <| ok_getfr (r := (O + 5)) (pc' := 4) i235_1 o235 gr9_22 (ShModel_k0 hSO) (ShModel_r8 hSO) rfl <| ok_bipush (v := 11) (pc' := 6) i235_4 rfl rfl <| ok_iaload (v := (s 11)) (pc' := 7) i235_6 (ShModel_k5 hSO) (by decide) (ShModel_l5 hSO) (by decide) (RepO_s hRO) rfl <| ok_istoren (pc' := 8) (ls' := [aR O, aI x1, aI (s 11), aU, aU, aU]) i235_7 (bt rfl) rfl rfl <| ok_iloadn (pc' := 9) i235_8 rfl rfl <| ok_iconst (pc' := 10) i235_9 rfl <| ?_
  refine ok_cne (pc1 := 17) (pc2 := 13) i235_10 (by omega) rfl rfl (fun h1 => ?_) (fun h1 => ?_)
  · refine ok_iloadn (pc' := 18) i235_17 rfl rfl <| ok_iconst (pc' := 19) i235_18 rfl <| ?_
    refine ok_cne (pc1 := 26) (pc2 := 22) i235_19 (by omega) rfl rfl (fun h2 => ?_) (fun h9 => by exfalso; omega)
    refine ok_iloadn (pc' := 27) i235_26 rfl rfl <| ok_istoren (pc' := 28) (ls' := [aR O, aI x1, aI (s 11), aI x1, aU, aU]) i235_27 (bt rfl) rfl rfl <| ok_aloadn (pc' := 29) i235_28 rfl rfl <| ok_iloadn (pc' := 30) i235_29 rfl rfl <| ok_cp (pc' := 33) (d0 := 3) i235_30 rfl (cl_v o235 m9_308 na241 rfl rfl (bt rfl) (bt rfl) rfl (by rw [ShModel_k0 hSO, o241])) ln241 (pd241 (aR O) (aI x1)) (by omega) (t241 (x1 := x1) hSO hRO hV hQ (by omega)) rfl <| ?_
    have z1 : 0 ≤ (r241 s x1) ∧ (r241 s x1) ≤ 200 := x241 (M := M) (x1 := x1) hSO hRO hV hQ (by omega)
    refine ok_istore (pc' := 35) (ls' := [aR O, aI x1, aI (s 11), aI x1, aI (r241 s x1), aU]) i235_33 (bt rfl) rfl rfl <| ?_
    have hw := w235 (d := 0) (w5 := aU) (x1 := x1) (x2 := s 11) (x3 := x1) hSO hRO hV hQ rfl (by omega)
    refine hw.mono (fun o g1 M1 h => ⟨?_, h.2.1, ?_⟩)
    · rw [h.1]
      have ha := (fill_aft hV x1).2.2.2
      have ha2 : fillS q s x1 11 = s 11 + fillN q s x1 := ha
      rw [ha2, show s 11 + fillN q s x1 - s 11 = fillN q s x1 by omega]
      unfold fulN
      rw [if_neg (by omega)]
    · rw [h.2.2]
      unfold fulS
      rw [if_neg (by omega)]
  · refine ok_aloadn (pc' := 14) i235_13 rfl rfl <| ?_
    refine ok_cn0 (pc' := 17) (d0 := 5) i235_14 rfl (cl_v o235 m9_305 na236 rfl rfl (bt rfl) (bt rfl) rfl (by rw [ShModel_k0 hSO, o236])) ln236 (pd236 (aR O)) (by omega) (t236 hSO hRO hV hQ (by omega)) rfl (fun M3 p4 => ?_)
    obtain ⟨s3, hs3⟩ : ∃ u9 : Int → Int, u9 = (pfS q s) := ⟨_, rfl⟩
    rw [← hs3] at p4
    have hRM3 : RepO M3 O q s3 := by rw [p4]; exact RepO.upm hRO
    have hVM3 : Val (b) q s3 := by rw [hs3]; exact (pf_aft hV).1
    have z2 : 0 ≤ s3 3 ∧ s3 3 ≤ 80 := V_3 hVM3
    have z3 : 0 ≤ s3 4 ∧ s3 4 ≤ 16 := V_4 hVM3
    refine ok_iloadn (pc' := 18) i235_17 rfl rfl <| ok_iconst (pc' := 19) i235_18 rfl <| ?_
    refine ok_cne (pc1 := 26) (pc2 := 22) i235_19 (by omega) rfl rfl (fun h9 => by exfalso; omega) (fun h5 => ?_)
    refine ok_iconst (pc' := 23) i235_22 rfl <| ok_goto (pc' := 27) i235_23 rfl <| ok_istoren (pc' := 28) (ls' := [aR O, aI x1, aI (s 11), aI 1, aU, aU]) i235_27 (bt rfl) rfl rfl <| ok_aloadn (pc' := 29) i235_28 rfl rfl <| ok_iloadn (pc' := 30) i235_29 rfl rfl <| ok_cp (pc' := 33) (d0 := 3) i235_30 rfl (cl_v o235 m9_308 na241 rfl rfl (bt rfl) (bt rfl) rfl (by rw [ShModel_k0 hSO, o241])) ln241 (pd241 (aR O) (aI 1)) (by omega) (t241 (x1 := 1) hSO hRM3 hVM3 hQ (by omega)) rfl <| ?_
    have z4 : 0 ≤ (r241 s3 1) ∧ (r241 s3 1) ≤ 200 := x241 (M := M3) (x1 := 1) hSO hRM3 hVM3 hQ (by omega)
    refine ok_istore (pc' := 35) (ls' := [aR O, aI x1, aI (s 11), aI 1, aI (r241 s3 1), aU]) i235_33 (bt rfl) rfl rfl <| ?_
    have hw := w235 (d := 0) (w5 := aU) (x1 := x1) (x2 := s 11) (x3 := 1) hSO hRM3 hVM3 hQ rfl (by omega)
    refine hw.mono (fun o g1 M1 h => ⟨?_, h.2.1, ?_⟩)
    · rw [h.1, hs3]
      have ha := (ful_aft hV 3).2.2.2
      have e1 : fulS q s 3 = fillS q (pfS q s) 1 := if_pos rfl
      dsimp only at ha
      rw [e1] at ha
      rw [show x1 = 3 by omega, ha]
      rw [show s 11 + fulN q s 3 - s 11 = fulN q s 3 by omega]
    · rw [h.2.2, p4, upM_upM, hs3, show x1 = 3 by omega]
      rfl
theorem t41 {g : AG} {M : AM} {W P B : Nat} {q s : Int → Int} {b : Int} {x1 : Int} (hSW : ShWorks g W P B) (hSP : ShPlan g P) (hSB : ShState g B) (hRP : RepP M P q) (hRB : RepS M B s) (hQ : ValQ q) (hV : Val b q s) (h1 : 0 ≤ x1 ∧ x1 < 4) (hb : b + 6 ≤ 1000000) (h9 : P + 11 ≤ B ∨ B + 24 ≤ P) :
    Ok 4 41 0 [aR W, aI x1] [] g M (Rt (some (aI (fulN q s x1))) g (fun M9 => RepS M9 B (fulS q s x1) ∧ Wr B 24 M M9)) := by
  have yq0 : 0 ≤ q 0 ∧ q 0 ≤ 4 := Q_0 hQ
  have yq1 : 0 ≤ q 1 ∧ q 1 ≤ 6 := Q_1 hQ
  have ys3 : 0 ≤ s 3 ∧ s 3 ≤ 80 := V_3 hV
  have ys4 : 0 ≤ s 4 ∧ s 4 ≤ 16 := V_4 hV
  refine ok_iloadn (pc' := 1) i41_0 rfl rfl <| ok_iconst (pc' := 2) i41_1 rfl <| ?_
  refine ok_cne (pc1 := 16) (pc2 := 5) i41_2 (by omega) rfl rfl (fun h1 => ?_) (fun h1 => ?_)
  · refine ok_aloadn (pc' := 17) i41_16 rfl rfl <| ok_iloadn (pc' := 18) i41_17 rfl rfl <| ?_
    refine ok_cn (pc' := 21) (d0 := 2) i41_18 rfl (cl_v o41 m8_103 na46 rfl rfl (bt rfl) (bt rfl) rfl (by rw [ShWorks_k0 hSW, o46])) ln46 (pd46 (aR W) (aI x1)) (by omega) (t46 (x1 := x1) hSW hSP hSB hRP hRB hQ hV (by omega) (by omega)) rfl (fun M2 p3 => ?_)
    obtain ⟨s2, hs2⟩ : ∃ u9 : Int → Int, u9 = (fillS q s x1) := ⟨_, rfl⟩
    rw [← hs2] at p3
    have hRM2 : RepS M2 B s2 := p3.1
    have hPM2P : RepP M2 P q := RepP.fr hRP (fun a h1 h2 => p3.2 a (by omega))
    have hVM2 : Val (b) q s2 := by rw [hs2]; exact (fill_aft hV _).1
    have z1 : 0 ≤ s2 3 ∧ s2 3 ≤ 80 := V_3 hVM2
    have z2 : 0 ≤ s2 4 ∧ s2 4 ≤ 16 := V_4 hVM2
    refine ok_ireti i41_21 rt41 <| ?_
    have e1 : fulS q s x1 = s2 := by rw [hs2]; unfold fulS; rw [if_neg (by omega)]
    have e2 : fulN q s x1 = (fillN q s x1) := by unfold fulN; rw [if_neg (by omega)]
    exact ⟨by rw [e2], rfl, by rw [e1]; exact hRM2, p3.2⟩
  · refine ok_aloadn (pc' := 6) i41_5 rfl rfl <| ?_
    refine ok_cn (pc' := 9) (d0 := 3) i41_6 rfl (cl_v o41 m8_99 na42 rfl rfl (bt rfl) (bt rfl) rfl (by rw [ShWorks_k0 hSW, o42])) ln42 (pd42 (aR W)) (by omega) (t42 hSW hSP hSB hRP hRB hQ hV (by omega) (by omega)) rfl (fun M4 p5 => ?_)
    obtain ⟨s4, hs4⟩ : ∃ u9 : Int → Int, u9 = (pfS q s) := ⟨_, rfl⟩
    rw [← hs4] at p5
    have hRM4 : RepS M4 B s4 := p5.1
    have hPM4P : RepP M4 P q := RepP.fr hRP (fun a h1 h2 => p5.2 a (by omega))
    have hVM4 : Val (b) q s4 := by rw [hs4]; exact (pf_aft hV).1
    have z3 : 0 ≤ s4 3 ∧ s4 3 ≤ 80 := V_3 hVM4
    have z4 : 0 ≤ s4 4 ∧ s4 4 ≤ 16 := V_4 hVM4
    refine ok_aloadn (pc' := 10) i41_9 rfl rfl <| ok_iconst (pc' := 11) i41_10 rfl <| ?_
    refine ok_cn (pc' := 14) (d0 := 2) i41_11 rfl (cl_v o41 m8_103 na46 rfl rfl (bt rfl) (bt rfl) rfl (by rw [ShWorks_k0 hSW, o46])) ln46 (pd46 (aR W) (aI 1)) (by omega) (t46 (x1 := 1) hSW hSP hSB hPM4P hRM4 hQ hVM4 (by omega) (by omega)) rfl (fun M6 p7 => ?_)
    obtain ⟨s6, hs6⟩ : ∃ u9 : Int → Int, u9 = (fillS q s4 1) := ⟨_, rfl⟩
    rw [← hs6] at p7
    have hRM6 : RepS M6 B s6 := p7.1
    have hPM6P : RepP M6 P q := RepP.fr hPM4P (fun a h1 h2 => p7.2 a (by omega))
    have hVM6 : Val (b) q s6 := by rw [hs6]; exact (fill_aft hVM4 _).1
    have z5 : 0 ≤ s6 3 ∧ s6 3 ≤ 80 := V_3 hVM6
    have z6 : 0 ≤ s6 4 ∧ s6 4 ≤ 16 := V_4 hVM6
    refine ok_iadd (v := ((pfN q s) + (fillN q s4 1))) (pc' := 15) i41_14 rfl rfl <| ok_ireti i41_15 rt41 <| ?_
    have e1 : fulS q s x1 = s6 := by rw [show x1 = 3 by omega, hs6, hs4]; rfl
    have e2 : fulN q s x1 = ((pfN q s) + (fillN q s4 1)) := by rw [show x1 = 3 by omega]; rw [hs4]; rfl
    exact ⟨by rw [e2], rfl, by rw [e1]; exact hRM6, (Wr.trans p5.2 p7.2)⟩
