/-! FILLING (by program, wip/gen) -/
theorem o41 : am_oc 41 = 8 := by decide +kernel
theorem m8_103 : am_mlk 8 103 0 46 = true := by decide +kernel
theorem na46 : am_na 46 = 1 := by decide +kernel
theorem nl46 : am_nL 46 = 5 := by decide +kernel
theorem pd46 : ∀ a0 a1 : AV, am_pad 46 [a0, a1] = [a0, a1, aU, aU, aU] := by intros; unfold am_pad; rw [nl46]; rfl
theorem ln46 : 2 ≤ am_nL 46 := by rw [nl46]; decide
theorem rt41 : am_rt 41 = some .int := by decide +kernel
theorem m8_99 : am_mlk 8 99 0 42 = true := by decide +kernel
theorem na42 : am_na 42 = 0 := by decide +kernel
theorem nl42 : am_nL 42 = 5 := by decide +kernel
theorem pd42 : ∀ a0 : AV, am_pad 42 [a0] = [a0, aU, aU, aU, aU] := by intros; unfold am_pad; rw [nl42]; rfl
theorem ln42 : 1 ≤ am_nL 42 := by rw [nl42]; decide
theorem t41 {g : AG} {M : AM} {W P B : Nat} {q s : Int → Int} {b : Int} {x1 : Int} (hSW : ShWorks g W P B) (hSP : ShPlan g P) (hSB : ShState g B) (hRP : RepP M P q) (hRB : RepS M B s) (hQ : ValQ q) (hV : Val b q s) (h1 : 0 ≤ x1 ∧ x1 < 4) (hb : b + 6 ≤ 1000000) (h9 : P + 11 ≤ B ∨ B + 24 ≤ P) :
    Ok 4 41 0 [aR W, aI x1] [] g M (Rt (some (aI (fulN q s x1))) g (fun M9 => RepS M9 B (fulS q s x1) ∧ Wr B 24 M M9)) := by
  have yq0 : 0 ≤ q 0 ∧ q 0 ≤ 4 := Q_0 hQ
  have yq1 : 0 ≤ q 1 ∧ q 1 ≤ 6 := Q_1 hQ
  have ys3 : 0 ≤ s 3 ∧ s 3 ≤ 80 := V_3 hV
  have ys4 : 0 ≤ s 4 ∧ s 4 ≤ 16 := V_4 hV
  refine ok_iloadn (pc' := 1) i41_0 rfl rfl <| ok_iconst (pc' := 2) i41_1 rfl <| ?_
  refine ok_cne (pc1 := 16) (pc2 := 5) i41_2 (by omega) rfl rfl (fun h1 => ?_) (fun h1 => ?_)
  · refine ok_aloadn (pc' := 17) i41_16 rfl rfl <| ok_iloadn (pc' := 18) i41_17 rfl rfl <| ?_
    refine ok_cn (pc' := 21) (d0 := 2) i41_18 rfl (cl_v o41 m8_103 na46 rfl rfl (bt rfl) (bt rfl) rfl (by rw [ShWorks_k0 hSW, o46])) ln46 (pd46 (aR W) (aI x1)) (by omega) (t46 (x1 := x1) hSW hSP hSB hRP hRB hQ hV (by omega) (by omega)) rfl (fun M2 p3 => ?_)
    obtain ⟨s2, hs2⟩ : ∃ u9 : Int → Int, u9 = (fillS q s x1) := ⟨_, rfl⟩
    rw [← hs2] at p3
    have hRM2 : RepS M2 B s2 := p3.1
    have hPM2P : RepP M2 P q := RepP.fr hRP (fun a h1 h2 => p3.2 a (by omega))
    have hVM2 : Val (b) q s2 := by rw [hs2]; exact (fill_aft hV _).1
    have z1 : 0 ≤ s2 3 ∧ s2 3 ≤ 80 := V_3 hVM2
    have z2 : 0 ≤ s2 4 ∧ s2 4 ≤ 16 := V_4 hVM2
    refine ok_ireti i41_21 rt41 <| ?_
    have e1 : fulS q s x1 = s2 := by rw [hs2]; unfold fulS; rw [if_neg (by omega)]
    have e2 : fulN q s x1 = (fillN q s x1) := by unfold fulN; rw [if_neg (by omega)]
    exact ⟨by rw [e2], rfl, by rw [e1]; exact hRM2, p3.2⟩
  · refine ok_aloadn (pc' := 6) i41_5 rfl rfl <| ?_
    refine ok_cn (pc' := 9) (d0 := 3) i41_6 rfl (cl_v o41 m8_99 na42 rfl rfl (bt rfl) (bt rfl) rfl (by rw [ShWorks_k0 hSW, o42])) ln42 (pd42 (aR W)) (by omega) (t42 hSW hSP hSB hRP hRB hQ hV (by omega) (by omega)) rfl (fun M4 p5 => ?_)
    obtain ⟨s4, hs4⟩ : ∃ u9 : Int → Int, u9 = (pfS q s) := ⟨_, rfl⟩
    rw [← hs4] at p5
    have hRM4 : RepS M4 B s4 := p5.1
    have hPM4P : RepP M4 P q := RepP.fr hRP (fun a h1 h2 => p5.2 a (by omega))
    have hVM4 : Val (b) q s4 := by rw [hs4]; exact (pf_aft hV).1
    have z3 : 0 ≤ s4 3 ∧ s4 3 ≤ 80 := V_3 hVM4
    have z4 : 0 ≤ s4 4 ∧ s4 4 ≤ 16 := V_4 hVM4
    refine ok_aloadn (pc' := 10) i41_9 rfl rfl <| ok_iconst (pc' := 11) i41_10 rfl <| ?_
    refine ok_cn (pc' := 14) (d0 := 2) i41_11 rfl (cl_v o41 m8_103 na46 rfl rfl (bt rfl) (bt rfl) rfl (by rw [ShWorks_k0 hSW, o46])) ln46 (pd46 (aR W) (aI 1)) (by omega) (t46 (x1 := 1) hSW hSP hSB hPM4P hRM4 hQ hVM4 (by omega) (by omega)) rfl (fun M6 p7 => ?_)
    obtain ⟨s6, hs6⟩ : ∃ u9 : Int → Int, u9 = (fillS q s4 1) := ⟨_, rfl⟩
    rw [← hs6] at p7
    have hRM6 : RepS M6 B s6 := p7.1
    have hPM6P : RepP M6 P q := RepP.fr hPM4P (fun a h1 h2 => p7.2 a (by omega))
    have hVM6 : Val (b) q s6 := by rw [hs6]; exact (fill_aft hVM4 _).1
    have z5 : 0 ≤ s6 3 ∧ s6 3 ≤ 80 := V_3 hVM6
    have z6 : 0 ≤ s6 4 ∧ s6 4 ≤ 16 := V_4 hVM6
    refine ok_iadd (v := ((pfN q s) + (fillN q s4 1))) (pc' := 15) i41_14 rfl rfl <| ok_ireti i41_15 rt41 <| ?_
    have e1 : fulS q s x1 = s6 := by rw [show x1 = 3 by omega, hs6, hs4]; rfl
    have e2 : fulN q s x1 = ((pfN q s) + (fillN q s4 1)) := by rw [show x1 = 3 by omega]; rw [hs4]; rfl
    exact ⟨by rw [e2], rfl, by rw [e1]; exact hRM6, (Wr.trans p5.2 p7.2)⟩

