/-! FILLING BY PATTERNS: the class (by program, wip/gen) -/
theorem o42 : am_oc 42 = 8 := by decide +kernel
theorem m8_124 : am_mlk 8 124 0 39 = true := by decide +kernel
theorem na39 : am_na 39 = 1 := by decide +kernel
theorem nl39 : am_nL 39 = 5 := by decide +kernel
theorem pd39 : ∀ a0 a1 : AV, am_pad 39 [a0, a1] = [a0, a1, aU, aU, aU] := by intros; unfold am_pad; rw [nl39]; rfl
theorem ln39 : 2 ≤ am_nL 39 := by rw [nl39]; decide
theorem m8_128 : am_mlk 8 128 0 38 = true := by decide +kernel
theorem na38 : am_na 38 = 1 := by decide +kernel
theorem nl38 : am_nL 38 = 4 := by decide +kernel
theorem pd38 : ∀ a0 a1 : AV, am_pad 38 [a0, a1] = [a0, a1, aU, aU] := by intros; unfold am_pad; rw [nl38]; rfl
theorem ln38 : 2 ≤ am_nL 38 := by rw [nl38]; decide
theorem m8_131 : am_mlk 8 131 0 43 = true := by decide +kernel
theorem na43 : am_na 43 = 2 := by decide +kernel
theorem nl43 : am_nL 43 = 6 := by decide +kernel
theorem pd43 : ∀ a0 a1 a2 : AV, am_pad 43 [a0, a1, a2] = [a0, a1, a2, aU, aU, aU] := by intros; unfold am_pad; rw [nl43]; rfl
theorem ln43 : 3 ≤ am_nL 43 := by rw [nl43]; decide
theorem gi8_121 : am_gfi 8 121 4 3 = true := by decide +kernel
theorem rt42 : am_rt 42 = some .int := by decide +kernel
theorem w42_17 {d : Nat} {Q : AO → AG → AM → Prop} {g : AG} {M : AM} {W P B : Nat} {q s t0 : Int → Int} {b x0 x2 : Int} {w4 : AV} (hSW : ShWorks g W P B) (hSP : ShPlan g P) (hSB : ShState g B) (hRP : RepP M P q) (hRB : RepS M B t0) (hQ : ValQ q) (hA : Aft b q s (t0, x0)) (hp : 0 ≤ x2 ∧ x2 < q 1) (hb : b + 6 ≤ 1000000) (h9 : P + 11 ≤ B ∨ B + 24 ≤ P) (hw4 : am_cat w4 = 1)
    (K : ∀ (M1 : AM) (w3 w4 : AV), am_cat w3 = 1 → am_cat w4 = 1 → RepS M1 B (pfX q x2 (t0, x0)).1 → Wr B 24 M M1 → Ok (d + 3) 42 74 [aR W, aI (pfX q x2 (t0, x0)).2, aI x2, w3, w4] [] g M1 Q) :
    Ok (d + 3) 42 17 [aR W, aI x0, aI x2, aI 0, w4] [] g M Q := by
  have yq1 := Q_1 hQ
  have yq10 := Q_10 hQ hp.1 hp.2
  refine ok_forx (lo := 0) (n := 144) (f := pfF q x2) (a0 := (t0, x0)) (fun x3 a ls M9 => RepS M9 B a.1 ∧ Wr B 24 M M9 ∧ Aft b q s a ∧ ∃ w4 : AV, am_cat w4 = 1 ∧ ls = [aR W, aI a.2, aI x2, aI x3, w4]) ?_ ?_ _ _ ⟨hRB, Wr.rfl, hA, w4, hw4, rfl⟩
  · rintro x3 ⟨t, c⟩ ls M9 g1 g2 ⟨hR9, hW9, hA9, w4, hw4, rfl⟩ hr ih
    dsimp only at hR9
    have hV9 : Val b q t := hA9.1
    have g3 : x3 < 144 := by omega
    have hP9 : RepP M9 P q := RepP.fr hRP (fun a h1 h2 => hW9 a (by omega))
    have yt3 := V_3 hV9
    have yt4 := V_4 hV9
    refine ok_iloadn (pc' := 18) i42_17 rfl rfl <| ok_sipush (v := 144) (pc' := 21) i42_18 rfl rfl <| ?_
    refine ok_cge (pc1 := 74) (pc2 := 24) i42_21 (by omega) rfl rfl (fun h9 => by exfalso; omega) (fun h1 => ?_)
    refine ok_aloadn (pc' := 25) i42_24 rfl rfl <| ok_iloadn (pc' := 26) i42_25 rfl rfl <| ok_cp (pc' := 29) (d0 := 1) i42_26 rfl (cl_v o42 m8_124 na39 rfl rfl (bt rfl) (bt rfl) rfl (by rw [ShWorks_k0 hSW, o39])) ln39 (pd39 (aR W) (aI x2)) (by omega) (t39 (x1 := x2) hSW hSP hSB hP9 hR9 hQ hV9 (by omega)) rfl <| ?_
    have z61 : 0 ≤ (r39 q t x2) ∧ (r39 q t x2) ≤ 1 := x39 (M := M9) (x1 := x2) hSW hSP hSB hP9 hR9 hQ hV9 (by omega)
    refine ok_zeq (pc1 := 74) (pc2 := 32) i42_29 (by omega) rfl rfl (fun h2 => ?_) (fun h2 => ?_)
    · have e : pfF q x2 x3 (t, c) = .inr (t, c) := by unfold pfF; dsimp only; rw [if_pos (by omega)]
      have e3 : pfX q x2 (t0, x0) = (t, c) := by unfold pfX; rw [hr _ e]; rfl
      rw [e3] at K
      exact K _ _ _ rfl hw4 hR9 hW9
    · refine ok_aloadn (pc' := 33) i42_32 rfl rfl <| ok_iloadn (pc' := 34) i42_33 rfl rfl <| ok_cp (pc' := 37) (d0 := 2) i42_34 rfl (cl_v o42 m8_128 na38 rfl rfl (bt rfl) (bt rfl) rfl (by rw [ShWorks_k0 hSW, o38])) ln38 (pd38 (aR W) (aI x2)) (by omega) (t38 (x1 := x2) hSW hSP hSB hP9 hR9 hQ hV9 (by omega)) rfl <| ?_
      have z62 : -1 ≤ (r38 q t x2) ∧ (r38 q t x2) < t 3 ∧ (r38 q t x2) < 80 := x38 (M := M9) (x1 := x2) hSW hSP hSB hP9 hR9 hQ hV9 (by omega)
      refine ok_istore (pc' := 39) (ls' := [aR W, aI c, aI x2, aI x3, aI (r38 q t x2)]) i42_37 (bt rfl) rfl rfl <| ok_iload (pc' := 41) i42_39 rfl rfl <| ok_iconst (pc' := 42) i42_41 rfl <| ?_
      refine ok_cne (pc1 := 48) (pc2 := 45) i42_42 (by omega) rfl rfl (fun h3 => ?_) (fun h3 => ?_)
      · refine ok_aloadn (pc' := 49) i42_48 rfl rfl <| ok_iloadn (pc' := 50) i42_49 rfl rfl <| ok_iload (pc' := 52) i42_50 rfl rfl <| ?_
        have z63 : 0 ≤ (r38 q t x2) ∧ (r38 q t x2) < t 3 := by have h8 := p_38 hV9 (p := x2) (by omega); omega
        have hf8 := (p_38 hV9 (p := x2) (by omega)).2.2
        refine ok_cn (pc' := 55) (d0 := 2) i42_52 rfl (cl_v o42 m8_131 na43 rfl rfl (bt rfl) (bt rfl) rfl (by rw [ShWorks_k0 hSW, o43])) ln43 (pd43 (aR W) (aI x2) (aI (r38 q t x2))) (by omega) (t43 (x1 := x2) (x2 := (r38 q t x2)) hSW hSP hSB hP9 hR9 hQ hV9 (by omega) (by omega) hf8 (by omega) (by omega)) rfl (fun M4 p5 => ?_)
        obtain ⟨s4, hs4⟩ : ∃ u9 : Int → Int, u9 = (patS q t x2 (r38 q t x2)) := ⟨_, rfl⟩
        rw [← hs4] at p5
        have hRM4 : RepS M4 B s4 := p5.1
        have hPM4P : RepP M4 P q := RepP.fr hP9 (fun a h1 h2 => p5.2 a (by omega))
        have hVM4 : Val (b) q s4 := by rw [hs4]; exact (pf_go (s := s) (p := x2) (a := (t, c)) hA9 hp (by show r39 q t x2 ≠ 0; omega) (by show r38 q t x2 ≠ -1; omega)).1.1
        have z64 : 0 ≤ s4 3 ∧ s4 3 ≤ 80 := V_3 hVM4
        have z65 : 0 ≤ s4 4 ∧ s4 4 ≤ 16 := V_4 hVM4
        refine ok_pop (pc' := 56) i42_55 rfl rfl <| ok_iloadn (pc' := 57) i42_56 rfl rfl <| ok_aloadn (pc' := 58) i42_57 rfl rfl <| ok_getfr (r := P) (pc' := 61) i42_58 o42 gr8_9 (ShWorks_k0 hSW) (ShWorks_r0 hSW) rfl <| ok_getfr (r := (P + 3)) (pc' := 64) i42_61 o42 gr8_40 (ShPlan_k0 hSP) (ShPlan_r4 hSP) rfl <| ok_iloadn (pc' := 65) i42_64 rfl rfl <| ok_iaload (v := (q (10 + x2))) (pc' := 66) i42_65 (ShPlan_k3 hSP) (by decide) (ShPlan_l3 hSP) (by omega) (RepP_3 hPM4P (by omega) (by omega)) rfl <| ok_iadd (v := (c + (q (10 + x2)))) (pc' := 67) i42_66 rfl rfl <| ?_
        refine ok_istoren (pc' := 68) (ls' := [aR W, aI (c + (q (10 + x2))), aI x2, aI x3, aI (r38 q t x2)]) i42_67 (bt rfl) rfl rfl <| ok_iinc (pc' := 71) (v := (x3 + 1)) (ls' := [aR W, aI (c + (q (10 + x2))), aI x2, aI (x3 + 1), aI (r38 q t x2)]) i42_68 rfl rfl rfl rfl <| ok_goto (pc' := 17) i42_71 rfl <| ?_
        have hgo := pf_go (s := s) (p := x2) (a := (t, c)) hA9 hp (by show r39 q t x2 ≠ 0; omega) (by show r38 q t x2 ≠ -1; omega)
        have e : pfF q x2 x3 (t, c) = .inl (s4, (c + (q (10 + x2)))) := by unfold pfF; dsimp only; rw [if_neg (by omega), if_neg (by omega), hs4]
        refine ih _ _ _ e ⟨hRM4, Wr.trans hW9 p5.2, ?_, aI _, rfl, rfl⟩
        rw [hs4]
        exact hgo.1
      · refine ok_goto (pc' := 74) i42_45 rfl <| ?_
        have e : pfF q x2 x3 (t, c) = .inr (t, c) := by unfold pfF; dsimp only; rw [if_neg (by omega), if_pos (by omega)]
        have e3 : pfX q x2 (t0, x0) = (t, c) := by unfold pfX; rw [hr _ e]; rfl
        rw [e3] at K
        exact K _ _ _ rfl rfl hR9 hW9
  · rintro x3 ⟨t, c⟩ ls M9 g1 g2 ⟨hR9, hW9, hA9, w4, hw4, rfl⟩
    dsimp only at hR9
    have hV9 : Val b q t := hA9.1
    have g3 : x3 = 144 := by omega
    have hP9 : RepP M9 P q := RepP.fr hRP (fun a h1 h2 => hW9 a (by omega))
    have yt3 := V_3 hV9
    have yt4 := V_4 hV9
    refine ok_iloadn (pc' := 18) i42_17 rfl rfl <| ok_sipush (v := 144) (pc' := 21) i42_18 rfl rfl <| ?_
    refine ok_cge (pc1 := 74) (pc2 := 24) i42_21 (by omega) rfl rfl (fun h1 => ?_) (fun h9 => by exfalso; omega)
    have e3 : pfX q x2 (t0, x0) = (t, c) := by unfold pfX; rw [g2]; rfl
    rw [e3] at K
    exact K _ _ _ rfl hw4 hR9 hW9
theorem t42 {g : AG} {M : AM} {W P B : Nat} {q s : Int → Int} {b : Int} (hSW : ShWorks g W P B) (hSP : ShPlan g P) (hSB : ShState g B) (hRP : RepP M P q) (hRB : RepS M B s) (hQ : ValQ q) (hV : Val b q s) (hb : b + 6 ≤ 1000000) (h9 : P + 11 ≤ B ∨ B + 24 ≤ P) :
    Ok 3 42 0 [aR W, aU, aU, aU, aU] [] g M (Rt (some (aI (pfN q s))) g (fun M9 => RepS M9 B (pfS q s) ∧ Wr B 24 M M9)) := by
  have yq1 := Q_1 hQ
  refine ok_iconst (pc' := 1) i42_0 rfl <| ok_istoren (pc' := 2) (ls' := [aR W, aI 0, aU, aU, aU]) i42_1 (bt rfl) rfl rfl <| ok_iconst (pc' := 3) i42_2 rfl <| ok_istoren (pc' := 4) (ls' := [aR W, aI 0, aI 0, aU, aU]) i42_3 (bt rfl) rfl rfl <| ?_
  refine ok_for (lo := 0) (n := (q 1).toNat) (f := pfX q) (a0 := (s, 0)) (fun x2 a ls M9 => RepS M9 B a.1 ∧ Wr B 24 M M9 ∧ Aft b q s a ∧ ∃ w3 w4 : AV, am_cat w3 = 1 ∧ am_cat w4 = 1 ∧ ls = [aR W, aI a.2, aI x2, w3, w4]) ?_ ?_ _ _ ⟨hRB, Wr.rfl, ⟨hV, rfl, rfl, by show s 11 = s 11 + 0; omega⟩, aU, aU, rfl, rfl, rfl⟩
  · rintro x2 ⟨t, c⟩ ls M9 g1 g2 ⟨hR9, hW9, hA9, w3, w4, hw3, hw4, rfl⟩ ih
    dsimp only at hR9
    have hV9 : Val b q t := hA9.1
    have g3 : x2 < q 1 := by omega
    have hP9 : RepP M9 P q := RepP.fr hRP (fun a h1 h2 => hW9 a (by omega))
    have yt3 := V_3 hV9
    have yt4 := V_4 hV9
    refine ok_iloadn (pc' := 5) i42_4 rfl rfl <| ok_aloadn (pc' := 6) i42_5 rfl rfl <| ok_getfr (r := P) (pc' := 9) i42_6 o42 gr8_9 (ShWorks_k0 hSW) (ShWorks_r0 hSW) rfl <| ok_getfi (v := (q 1)) (pc' := 12) i42_9 o42 gi8_121 (ShPlan_k0 hSP) (RepP_f3 hP9) rfl <| ?_
    refine ok_cge (pc1 := 80) (pc2 := 15) i42_12 (by omega) rfl rfl (fun h9 => by exfalso; omega) (fun h1 => ?_)
    refine ok_iconst (pc' := 16) i42_15 rfl <| ok_istoren (pc' := 17) (ls' := [aR W, aI c, aI x2, aI 0, w4]) i42_16 (bt rfl) rfl rfl <| ?_
    refine w42_17 hSW hSP hSB hP9 hR9 hQ hA9 ⟨by omega, by omega⟩ (by omega) (by omega) hw4 (fun M1 w5 w6 hw5 hw6 hR1 hW1 => ?_)
    refine ok_iinc (pc' := 77) (v := (x2 + 1)) (ls' := [aR W, aI (pfX q x2 (t, c)).2, aI (x2 + 1), w5, w6]) i42_74 rfl rfl rfl rfl <| ok_goto (pc' := 4) i42_77 rfl <| ?_
    exact ih _ _ ⟨hR1, Wr.trans hW9 hW1, pfX_aft ⟨by omega, by omega⟩ hA9, _, _, hw5, hw6, rfl⟩
  · rintro x2 ⟨t, c⟩ ls M9 g1 g2 ⟨hR9, hW9, hA9, w3, w4, hw3, hw4, rfl⟩
    dsimp only at hR9
    have hV9 : Val b q t := hA9.1
    have g3 : x2 = q 1 := by omega
    have hP9 : RepP M9 P q := RepP.fr hRP (fun a h1 h2 => hW9 a (by omega))
    have yt3 := V_3 hV9
    have yt4 := V_4 hV9
    refine ok_iloadn (pc' := 5) i42_4 rfl rfl <| ok_aloadn (pc' := 6) i42_5 rfl rfl <| ok_getfr (r := P) (pc' := 9) i42_6 o42 gr8_9 (ShWorks_k0 hSW) (ShWorks_r0 hSW) rfl <| ok_getfi (v := (q 1)) (pc' := 12) i42_9 o42 gi8_121 (ShPlan_k0 hSP) (RepP_f3 hP9) rfl <| ?_
    refine ok_cge (pc1 := 80) (pc2 := 15) i42_12 (by omega) rfl rfl (fun h1 => ?_) (fun h9 => by exfalso; omega)
    refine ok_iloadn (pc' := 81) i42_80 rfl rfl <| ok_ireti i42_81 rt42 <| ?_
    exact ⟨by unfold pfN pfL; rw [g2], rfl, by unfold pfS pfL; rw [g2]; exact hR9, hW9⟩

