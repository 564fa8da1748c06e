/-! ACT: together (by program, wip/p60/gen) -/
theorem m13_250 : am_mlk 13 250 1 215 = true := by decide +kernel
theorem na215 : am_na 215 = 5 := by decide +kernel
theorem nl215 : am_nL 215 = 11 := by decide +kernel
theorem pd215 : ∀ a0 a1 a2 a3 a4 : AV, am_pad 215 [a0, a1, a2, a3, a4] = [a0, a1, a2, a3, a4, aU, aU, aU, aU, aU, aU] := by intros; unfold am_pad; rw [nl215]; rfl
theorem ln215 : 5 ≤ am_nL 215 := by rw [nl215]; decide
theorem m13_222 : am_mlk 13 222 0 192 = true := by decide +kernel
theorem na192 : am_na 192 = 2 := by decide +kernel
theorem nl192 : am_nL 192 = 4 := by decide +kernel
theorem pd192 : ∀ a0 a1 a2 : AV, am_pad 192 [a0, a1, a2] = [a0, a1, a2, aU] := by intros; unfold am_pad; rw [nl192]; rfl
theorem ln192 : 3 ≤ am_nL 192 := by rw [nl192]; decide
theorem t215 {g : AG} {M : AM} {O : Nat} {A : YA} {s q : Int → Int} {b : Int} {w v r : Int} (hY : Yd g M O A s q) (hW : CW g M O b q s) (hv : 1 ≤ v ∧ v ≤ 7) (hr : 0 ≤ r ∧ r < s 3) (h542 : s 542 = 0) (h40 : s 3 ≤ 40) (hb : b + 6 ≤ 200) (hw : 9 ≤ w ∧ w ≤ 13) : Ok 12 215 0 [aR O, aR 101, aR (A.R r), aI w, aI v, aU, aU, aU, aU, aU, aU] [] g M (fun o g1 M1 => o = .inl (some (aI 1)) ∧ ∃ (A1 : YA) (s1 : Int → Int), Yd g1 M1 O A1 s1 q ∧ CW g1 M1 O (b + 6) q s1 ∧ s1 542 = 0 ∧ s1 3 ≤ 40 ∧ Fr FA 8900 200000 g M g1 M1) := by
  have hV := hW.2.1.v
  have hQ := V_q hV
  have z2 := V_d2 hV hr.1 hr.2
  by_cases c9 : w = 9
  · by_cases c1 : s (174 + r) = 0
    · exact w215_scr1 (d := 0) hY hW hv hr h542 h40 hb c9 c1 (fun g1 M1 A1 s1 y1 y2 y3 y4 y5 => ⟨rfl, A1, s1, y1, y2, y3, y4, Fr.w y5 (by omega) (by omega)⟩)
    · exact w215_scr0 (d := 0) hY hW hv hr h542 h40 hb c9 c1 (fun g1 M1 A1 s1 y1 y2 y3 y4 y5 => ⟨rfl, A1, s1, y1, y2, y3, y4, Fr.w y5 (by omega) (by omega)⟩)
  · by_cases c12 : w < 12
    · by_cases c1 : s (94 + r) < v
      · exact w215_cut0a (d := 0) hY hW hv hr h542 h40 hb ⟨by omega, c12⟩ c1 (fun g1 M1 A1 s1 y1 y2 y3 y4 y5 => ⟨rfl, A1, s1, y1, y2, y3, y4, Fr.w y5 (by omega) (by omega)⟩)
      · exact w215_cut1a (d := 0) hY hW hv hr h542 h40 hb ⟨by omega, c12⟩ c1 (fun g1 M1 A1 s1 y1 y2 y3 y4 y5 => ⟨rfl, A1, s1, y1, y2, y3, y4, Fr.w y5 (by omega) (by omega)⟩)
    · have hq1 := Q_1 hQ
      by_cases cq : q 1 = 0
      · by_cases c1 : s (94 + r) < v
        · exact w215_cut0b (d := 0) hY hW hv hr h542 h40 hb ⟨by omega, cq⟩ hw.2 c1 (fun g1 M1 A1 s1 y1 y2 y3 y4 y5 => ⟨rfl, A1, s1, y1, y2, y3, y4, Fr.w y5 (by omega) (by omega)⟩)
        · exact w215_cut1b (d := 0) hY hW hv hr h542 h40 hb ⟨by omega, cq⟩ hw.2 c1 (fun g1 M1 A1 s1 y1 y2 y3 y4 y5 => ⟨rfl, A1, s1, y1, y2, y3, y4, Fr.w y5 (by omega) (by omega)⟩)
      · obtain ⟨p, hpv⟩ : ∃ p : Int, p = Int.tmod v (q 1) := ⟨_, rfl⟩
        have hp : 0 ≤ p ∧ p < q 1 := by rw [hpv]; exact tmod_lt (by omega) (by omega)
        have hr37 := lfY_rg (k := r) hV (ptV hQ hp) hr
        rw [lf_222 hV hp hr] at hr37
        by_cases c1 : r37 q s p r = -1
        · exact w215_pat0 (d := 0) hY hW hv hr h542 h40 hb ⟨by omega, hw.2⟩ hpv hp c1 (fun g1 M1 A1 s1 y1 y2 y3 y4 y5 => ⟨rfl, A1, s1, y1, y2, y3, y4, Fr.w y5 (by omega) (by omega)⟩)
        · refine w215_pat1 (d := 0) hY hW hv hr h542 h40 hb ⟨by omega, hw.2⟩ hpv hp ⟨by omega, hr37.2⟩ ?_
          refine w215_205 (d := 0) hY hW hr hb hp c1 (fun g2 M2 w10 hw10 hY2 hW2 f2 => ?_)
          exact w215_pat2 (d := 0) hY2 hW2 hv hr h542 h40 hb ⟨by omega, hw.2⟩ hpv hp ⟨by omega, hr37.2⟩ hw10 (fun g1 M1 A1 s1 y1 y2 y3 y4 y5 => ⟨rfl, A1, s1, y1, y2, y3, y4, Fr.w (Fr.trans f2 y5) (by omega) (by omega)⟩)
theorem w214_cut1 {g : AG} {M : AM} {O : Nat} {A : YA} {s q : Int → Int} {b : Int} {d : Nat} {w v k : Int} {Q : AO → AG → AM → Prop} (hY : Yd g M O A s q) (hW : CW g M O b q s) (hv : 1 ≤ v ∧ v ≤ 7) (hk : 0 ≤ k ∧ k ≤ 15) (h542 : s 542 = 0) (h40 : s 3 ≤ 40) (hb : b + 6 ≤ 200) (hw : 8 < w ∧ w ≤ 13) (h3 : 1 ≤ s 3) (hret : ∀ (g1 : AG) (M1 : AM) (A1 : YA) (s1 : Int → Int), Yd g1 M1 O A1 s1 q → CW g1 M1 O (b + 6) q s1 → s1 542 = 0 → s1 3 ≤ 40 → Fr FA 8900 200000 g M g1 M1 → Q (.inl (some (aI 1))) g1 M1) : Ok (d + 13) 214 26 [aR O, aR 101, aR 100, aI w, aI v, aI k, aU, aU] [] g M Q := by
  have hV := hW.2.1.v
  have hQ := V_q hV
  have y3 := V_3 hV
  have y4 := V_4 hV
  have y5 := V_5 hV
  have yq0 := Q_0 hQ
  have yq1 := Q_1 hQ
  have y0 := hV.2.1
  have yb := V_b hV
  have y1 := V_1 hV
  have y2 := V_2 hV
  have f0 : Fr FA 0 0 g M g M := Fr.rfl
  refine ok_iloadn (pc' := 27) i214_26 rfl rfl <| ok_iconst (pc' := 28) i214_27 rfl <| ?_
  refine ok_cge (pc1 := 56) (pc2 := 31) i214_28 (by omega) rfl rfl (fun h1 => ?_) (fun h9 => by exfalso; omega)
  refine ok_iloadn (pc' := 57) i214_56 rfl rfl <| ok_iconst (pc' := 58) i214_57 rfl <| ?_
  refine ok_cge (pc1 := 78) (pc2 := 61) i214_58 (by omega) rfl rfl (fun h2 => ?_) (fun h9 => by exfalso; omega)
  refine ok_iloadn (pc' := 79) i214_78 rfl rfl <| ok_iconst (pc' := 80) i214_79 rfl <| ?_
  refine ok_cne (pc1 := 177) (pc2 := 83) i214_80 (by omega) rfl rfl (fun h3 => ?_) (fun h9 => by exfalso; omega)
  refine ok_iloadn (pc' := 178) i214_177 rfl rfl <| ok_bipush (v := 7) (pc' := 180) i214_178 rfl rfl <| ?_
  refine ok_cge (pc1 := 272) (pc2 := 183) i214_180 (by omega) rfl rfl (fun h4 => ?_) (fun h9 => by exfalso; omega)
  refine ok_iloadn (pc' := 273) i214_272 rfl rfl <| ok_bipush (v := 7) (pc' := 275) i214_273 rfl rfl <| ?_
  refine ok_cne (pc1 := 387) (pc2 := 278) i214_275 (by omega) rfl rfl (fun h5 => ?_) (fun h9 => by exfalso; omega)
  refine ok_iloadn (pc' := 388) i214_387 rfl rfl <| ok_bipush (v := 8) (pc' := 390) i214_388 rfl rfl <| ?_
  refine ok_cne (pc1 := 487) (pc2 := 393) i214_390 (by omega) rfl rfl (fun h6 => ?_) (fun h9 => by exfalso; omega)
  refine ok_aloadn (pc' := 488) i214_487 rfl rfl <| ok_getfi (v := (s 3)) (pc' := 491) i214_488 o214 gi13_152 (hY.gr.ky) ((Yd.n3 hY)) rfl <| ?_
  refine ok_zne (pc1 := 516) (pc2 := 494) i214_491 (by omega) rfl rfl (fun h7 => ?_) (fun h9 => by exfalso; omega)
  refine ok_aloadn (pc' := 517) i214_516 rfl rfl <| ok_aloadn (pc' := 518) i214_517 rfl rfl <| ok_aloadn (pc' := 519) i214_518 rfl rfl <| ok_getfr (r := 107) (pc' := 522) i214_519 o214 gr13_168 (hY.gr.ky) (hY.gr.r4) rfl <| ok_iload (pc' := 524) i214_522 rfl rfl <| ok_aloadn (pc' := 525) i214_524 rfl rfl <| ok_getfi (v := (s 3)) (pc' := 528) i214_525 o214 gi13_152 (hY.gr.ky) ((Yd.n3 hY)) rfl <| ok_iremp (v := (Int.tmod k (s 3))) (pc' := 529) i214_528 (by omega) rfl rfl <| ?_
  have z8 : 0 ≤ (Int.tmod k (s 3)) ∧ (Int.tmod k (s 3)) < (s 3) := tmod_lt (by omega) (by omega)
  refine ok_aaload (r := (A.R (Int.tmod k (s 3)))) (pc' := 530) i214_529 (hY.gr.k7) (by decide) (hY.gr.l7) (by omega) ((hY.gr.rr (Int.tmod k (s 3)) (by omega) (by omega)).1) rfl <| ok_iloadn (pc' := 531) i214_530 rfl rfl <| ok_iload (pc' := 533) i214_531 rfl rfl <| ?_
  refine ok_cc i214_533 rfl (cl_s o214 m13_250 na215 rfl rfl (bt rfl) (bt rfl) rfl) ln215 (pd215 (aR O) (aR 101) (aR (A.R (Int.tmod k (s 3)))) (aI w) (aI v)) <| (Ok.deep (t215 (r := (Int.tmod k (s 3))) (w := w) (v := v) hY hW hv ⟨by omega, by omega⟩ h542 h40 hb ⟨by omega, by omega⟩) (by omega)).mono (fun o9 g37l M37l p37l => ?_)
  obtain ⟨rfl, A9, s9, y91, y92, y93, y94, y95⟩ := p37l
  refine kt_v (pc' := 536) rfl <| ok_iretz i214_536 rt214 (by decide) <| ?_
  exact hret _ _ A9 s9 y91 y92 y93 y94 y95
theorem dm_ne {M : AM} {v : Int} (c : Nat) (h : 101 ≤ c) : up2 M 100 1 v c = M c := if_neg (show ¬ (c = 100) by omega)
theorem Dr.nx {g : AG} {M : AM} {L : Nat} {d : Int} (h : Dr g M L d) (hd : d + 1 ≤ 1000000) : Dr g (up2 M 100 1 (d + 1)) L (d + 1) := by
  obtain ⟨h1, h2, h3, h4, h5, h6, h7⟩ := h
  exact ⟨h1, h2, h3, h4, rd_eq, ⟨by omega, hd⟩, h7⟩
theorem w214_0 {g : AG} {M : AM} {O L : Nat} {A : YA} {s q : Int → Int} {b d0 : Int} {d : Nat} {Q : AO → AG → AM → Prop} (hY : Yd g M O A s q) (hW : CW g M O b q s) (hD : Dr g M L d0) (hd : d0 + 3 ≤ 1000000) (K : ∀ (M1 : AM) (w v k : Int), 0 ≤ w ∧ w ≤ 13 → 1 ≤ v ∧ v ≤ 7 → 0 ≤ k ∧ k ≤ 15 → Yd g M1 O A s q → CW g M1 O b q s → Dr g M1 L (d0 + 1 + 1 + 1) → Ok (d + 13) 214 26 [aR O, aR 101, aR 100, aI w, aI v, aI k, aU, aU] [] g M1 Q) : Ok (d + 13) 214 0 [aR O, aR 101, aR 100, aU, aU, aU, aU, aU] [] g M Q := by
  refine ok_aloadn (pc' := 1) i214_0 rfl rfl <| ok_iconst (pc' := 2) i214_1 rfl <| ok_bipush (v := 13) (pc' := 4) i214_2 rfl rfl <| ?_
  refine ok_cc i214_4 rfl (cl_v o214 m13_222 na192 rfl rfl (bt rfl) (bt rfl) rfl (by rw [hD.1, o192])) ln192 (pd192 (aR 100) (aI 0) (aI 13)) <| (Ok.deep (t192 hD ⟨by omega, by omega⟩ (by omega)) (by omega)).mono (fun o9 g38d M38d p38d => ?_)
  obtain ⟨v38, rfl, hl38, hh38, rfl, rfl⟩ := p38d
  have hDn38 := Dr.nx hD (by omega)
  have hYn38 := Yd.mm hY (dm_ne (v := (d0 + 1)))
  have hWq38 := CW.mm hY.gr.o hW (dm_ne (v := (d0 + 1)))
  refine kt_v (pc' := 7) rfl <| ok_istoren (pc' := 8) (ls' := [aR O, aR 101, aR 100, aI v38, aU, aU, aU, aU]) i214_7 (bt rfl) rfl rfl <| ok_aloadn (pc' := 9) i214_8 rfl rfl <| ok_iconst (pc' := 10) i214_9 rfl <| ok_bipush (v := 7) (pc' := 12) i214_10 rfl rfl <| ?_
  refine ok_cc i214_12 rfl (cl_v o214 m13_222 na192 rfl rfl (bt rfl) (bt rfl) rfl (by rw [hDn38.1, o192])) ln192 (pd192 (aR 100) (aI 1) (aI 7)) <| (Ok.deep (t192 hDn38 ⟨by omega, by omega⟩ (by omega)) (by omega)).mono (fun o9 g39d M39d p39d => ?_)
  obtain ⟨v39, rfl, hl39, hh39, rfl, rfl⟩ := p39d
  have hDn39 := Dr.nx hDn38 (by omega)
  have hYn39 := Yd.mm hYn38 (dm_ne (v := ((d0 + 1) + 1)))
  have hWq39 := CW.mm hYn38.gr.o hWq38 (dm_ne (v := ((d0 + 1) + 1)))
  refine kt_v (pc' := 15) rfl <| ok_istore (pc' := 17) (ls' := [aR O, aR 101, aR 100, aI v38, aI v39, aU, aU, aU]) i214_15 (bt rfl) rfl rfl <| ok_aloadn (pc' := 18) i214_17 rfl rfl <| ok_iconst (pc' := 19) i214_18 rfl <| ok_bipush (v := 15) (pc' := 21) i214_19 rfl rfl <| ?_
  refine ok_cc i214_21 rfl (cl_v o214 m13_222 na192 rfl rfl (bt rfl) (bt rfl) rfl (by rw [hDn39.1, o192])) ln192 (pd192 (aR 100) (aI 0) (aI 15)) <| (Ok.deep (t192 hDn39 ⟨by omega, by omega⟩ (by omega)) (by omega)).mono (fun o9 g40d M40d p40d => ?_)
  obtain ⟨v40, rfl, hl40, hh40, rfl, rfl⟩ := p40d
  have hDn40 := Dr.nx hDn39 (by omega)
  have hYn40 := Yd.mm hYn39 (dm_ne (v := (((d0 + 1) + 1) + 1)))
  have hWq40 := CW.mm hYn39.gr.o hWq39 (dm_ne (v := (((d0 + 1) + 1) + 1)))
  refine kt_v (pc' := 24) rfl <| ok_istore (pc' := 26) (ls' := [aR O, aR 101, aR 100, aI v38, aI v39, aI v40, aU, aU]) i214_24 (bt rfl) rfl rfl <| ?_
  exact K _ v38 v39 v40 ⟨hl38, hh38⟩ ⟨hl39, hh39⟩ ⟨hl40, hh40⟩ hYn40 hWq40 hDn40
/-- a change of both -/
theorem t214 {g : AG} {M : AM} {O L : Nat} {A : YA} {s q : Int → Int} {b d0 : Int} (hY : Yd g M O A s q) (hW : CW g M O b q s) (hD : Dr g M L d0) (hd : d0 + 3 ≤ 1000000) (hq0 : 1 ≤ q 0) (h542 : s 542 = 0) (h40 : s 3 ≤ 40) (hb : b + 6 ≤ 200) : Ok 13 214 0 [aR O, aR 101, aR 100, aU, aU, aU, aU, aU] [] g M (fun o g1 M1 => o = .inl (some (aI 1)) ∧ ∃ (A1 : YA) (s1 : Int → Int), Yd g1 M1 O A1 s1 q ∧ CW g1 M1 O (b + 6) q s1 ∧ s1 542 = 0 ∧ s1 3 ≤ 40 ∧ Dr g1 M1 L (d0 + 1 + 1 + 1) ∧ gN g ≤ gN g1 ∧ gN g1 ≤ gN g + 8900 ∧ gS g1 ≤ gS g + 200000) := by
  have hg := hY.gr.n
  refine w214_0 (d := 0) hY hW hD hd (fun M1 w v k hw hv hk hY1 hW1 hD1 => ?_)
  have hV := hW.2.1.v
  have y3 := V_3 hV
  have y4 := V_4 hV
  by_cases c1 : w < 2
  · exact w214_fill (d := 1) hY1 hW1 hv hk h542 h40 hb ⟨hw.1, c1⟩ (fun g1 M2 A1 s1 y1 y2 y3 y4 y5 => ⟨rfl, A1, s1, y1, y2, y3, y4, Dr.fr hD1 y5 (by omega), y5.1, by have := y5.2.1; omega, by have := y5.2.2.1; omega⟩)
  by_cases c2 : w < 4
  · exact w214_end (d := 1) hY1 hW1 hv hk h542 h40 hb ⟨by omega, c2⟩ (fun g1 M2 A1 s1 y1 y2 y3 y4 y5 => ⟨rfl, A1, s1, y1, y2, y3, y4, Dr.fr hD1 y5 (by omega), y5.1, by have := y5.2.1; omega, by have := y5.2.2.1; omega⟩)
  by_cases c3 : w = 4
  · by_cases c4 : s 3 = 40
    · exact w214_buy0 (d := 1) hY1 hW1 hv hk h542 h40 hb c3 hq0 c4 (fun g1 M2 A1 s1 y1 y2 y3 y4 y5 => ⟨rfl, A1, s1, y1, y2, y3, y4, Dr.fr hD1 y5 (by omega), y5.1, by have := y5.2.1; omega, by have := y5.2.2.1; omega⟩)
    · exact w214_buy1 (d := 1) hY1 hW1 hv hk h542 h40 hb c3 hq0 (by omega) (fun g1 M2 A1 s1 y1 y2 y3 y4 y5 => ⟨rfl, A1, s1, y1, y2, y3, y4, Dr.fr hD1 y5 (by omega), y5.1, by have := y5.2.1; omega, by have := y5.2.2.1; omega⟩)
  by_cases c5 : w < 7
  · by_cases c4 : s 4 = 16
    · exact w214_ord0 (d := 1) hY1 hW1 hv hk h542 h40 hb ⟨by omega, c5⟩ c4 (fun g1 M2 A1 s1 y1 y2 y3 y4 y5 => ⟨rfl, A1, s1, y1, y2, y3, y4, Dr.fr hD1 y5 (by omega), y5.1, by have := y5.2.1; omega, by have := y5.2.2.1; omega⟩)
    · exact w214_ord1 (d := 1) hY1 hW1 hv hk h542 h40 hb ⟨by omega, c5⟩ (by omega) (fun g1 M2 A1 s1 y1 y2 y3 y4 y5 => ⟨rfl, A1, s1, y1, y2, y3, y4, Dr.fr hD1 y5 (by omega), y5.1, by have := y5.2.1; omega, by have := y5.2.2.1; omega⟩)
  by_cases c6 : w = 7
  · by_cases c4 : s 4 = 0
    · exact w214_can0 (d := 1) hY1 hW1 hv hk h542 h40 hb c6 c4 (fun g1 M2 A1 s1 y1 y2 y3 y4 y5 => ⟨rfl, A1, s1, y1, y2, y3, y4, Dr.fr hD1 y5 (by omega), y5.1, by have := y5.2.1; omega, by have := y5.2.2.1; omega⟩)
    · by_cases c7 : s ((414 + (8 * (Int.tmod k (s 4)))) + 4) = 0
      · exact w214_can1 (d := 1) hY1 hW1 hv hk h542 h40 hb c6 (by omega) c7 (fun g1 M2 A1 s1 y1 y2 y3 y4 y5 => ⟨rfl, A1, s1, y1, y2, y3, y4, Dr.fr hD1 y5 (by omega), y5.1, by have := y5.2.1; omega, by have := y5.2.2.1; omega⟩)
      · exact w214_can2 (d := 1) hY1 hW1 hv hk h542 h40 hb c6 (by omega) c7 (fun g1 M2 A1 s1 y1 y2 y3 y4 y5 => ⟨rfl, A1, s1, y1, y2, y3, y4, Dr.fr hD1 y5 (by omega), y5.1, by have := y5.2.1; omega, by have := y5.2.2.1; omega⟩)
  by_cases c8 : w = 8
  · by_cases c4 : k < 8
    · exact w214_set0 (d := 1) hY1 hW1 hv hk h542 h40 hb c8 ⟨hk.1, c4⟩ (fun g1 M2 A1 s1 y1 y2 y3 y4 y5 => ⟨rfl, A1, s1, y1, y2, y3, y4, Dr.fr hD1 y5 (by omega), y5.1, by have := y5.2.1; omega, by have := y5.2.2.1; omega⟩)
    · exact w214_set1 (d := 1) hY1 hW1 hv hk h542 h40 hb c8 ⟨by omega, hk.2⟩ (fun g1 M2 A1 s1 y1 y2 y3 y4 y5 => ⟨rfl, A1, s1, y1, y2, y3, y4, Dr.fr hD1 y5 (by omega), y5.1, by have := y5.2.1; omega, by have := y5.2.2.1; omega⟩)
  by_cases c9 : s 3 = 0
  · exact w214_cut0 (d := 1) hY1 hW1 hv hk h542 h40 hb hw.2 (by omega) c9 (fun g1 M2 A1 s1 y1 y2 y3 y4 y5 => ⟨rfl, A1, s1, y1, y2, y3, y4, Dr.fr hD1 y5 (by omega), y5.1, by have := y5.2.1; omega, by have := y5.2.2.1; omega⟩)
  · exact w214_cut1 (d := 0) hY1 hW1 hv hk h542 h40 hb ⟨by omega, hw.2⟩ (by omega) (fun g1 M2 A1 s1 y1 y2 y3 y4 y5 => ⟨rfl, A1, s1, y1, y2, y3, y4, Dr.fr hD1 y5 (by omega), y5.1, by have := y5.2.1; omega, by have := y5.2.2.1; omega⟩)
