/-! THE LAW BEGINS (by program, wip/p60/gen) -/
theorem ck13_223 : am_csk 13 223 9 = true := by decide +kernel
theorem ck13_142 : am_csk 13 142 17 = true := by decide +kernel
theorem ck13_18 : am_csk 13 18 0 = true := by decide +kernel
theorem o0 : am_oc 0 = 13 := by decide +kernel
theorem m13_350 : am_mlk 13 350 2 191 = true := by decide +kernel
theorem na191 : am_na 191 = 1 := by decide +kernel
theorem nl191 : am_nL 191 = 2 := by decide +kernel
theorem pd191 : ∀ a0 a1 : AV, am_pad 191 [a0, a1] = [a0, a1] := by intros; unfold am_pad; rw [nl191]; rfl
theorem ln191 : 2 ≤ am_nL 191 := by rw [nl191]; decide
theorem o191 : am_oc 191 = 9 := by decide +kernel
theorem m9_1 : am_mlk 9 1 5 0 = true := by decide +kernel
theorem pr191_7 : am_pfr 191 9 7 9 0 = true := by decide +kernel
theorem rt191 : am_rt 191 = none := by decide +kernel
theorem m13_353 : am_mlk 13 353 2 195 = true := by decide +kernel
theorem na195 : am_na 195 = 1 := by decide +kernel
theorem nl195 : am_nL 195 = 7 := by decide +kernel
theorem pd195 : ∀ a0 a1 : AV, am_pad 195 [a0, a1] = [a0, a1, aU, aU, aU, aU, aU] := by intros; unfold am_pad; rw [nl195]; rfl
theorem ln195 : 2 ≤ am_nL 195 := by rw [nl195]; decide
theorem m13_356 : am_mlk 13 356 2 87 = true := by decide +kernel
theorem na87 : am_na 87 = 0 := by decide +kernel
theorem nl87 : am_nL 87 = 2 := by decide +kernel
theorem pd87 : ∀ a0 : AV, am_pad 87 [a0] = [a0, aU] := by intros; unfold am_pad; rw [nl87]; rfl
theorem ln87 : 1 ≤ am_nL 87 := by rw [nl87]; decide
theorem BS_0 {L : Nat} {xs : Nat → Int32} : BS (am_g0 L) (am_M0 xs) := fun c c0 c1 => by
  refine ⟨⟨rfl, ?_, rfl⟩, ?_⟩
  · show (if c = 1 then L else _) = (if c = 1 then 0 else _)
    rw [if_neg (show ¬ c = 1 by omega), if_neg (show ¬ c = 1 by omega)]
  · funext i
    show (if c = 1 then _ else _) = (if c = 1 then _ else _)
    rw [if_neg (show ¬ c = 1 by omega), if_neg (show ¬ c = 1 by omega)]
theorem law_0 {L : Nat} {xs : Nat → Int32} {dd : Nat} {Q : AO → AG → AM → Prop} (hL : L ≤ 260) (K : ∀ (g : AG) (M : AM) (O : Nat) (d : Int) (t : Tx) (A : YA) (s q : Int → Int) (V : Nat) (C : Int), Yd g M O A s q → CF g M O → BS g M → Dr g M L d → SB g M 102 V C t → gR g 101 0 = 102 → PI t q s → (0 ≤ d ∧ d ≤ 47) → t.1 ≤ 255 → 1 ≤ q 0 → C ≤ 2000 → gN g ≤ 600 → gS g ≤ 20000 → Ok (dd + 22) 0 26 [aR 1, aR 100, aR 101, aR O, aU] [] g M Q) : Ok (dd + 22) 0 0 [aR 1, aU, aU, aU, aU] [] (am_g0 L) (am_M0 xs) Q := by
  refine ok_nw (sl := 2) (pc' := 3) i0_0 o0 ck13_223 (by decide) (by decide) rfl (fun x1 g1 M1 hx1 hn1 hA1 e1 => ?_)
  obtain rfl : x1 = 100 := by have h0 : gN (am_g0 L) = 0 := rfl; omega
  refine ok_dup (pc' := 4) i0_3 rfl rfl <| ok_aloadn (pc' := 5) i0_4 rfl rfl <| ok_cc i0_5 rfl (cl_i o0 (Or.inl m13_350) na191 rfl rfl (bt rfl) (bt rfl) rfl (by rw [hA1.1]; decide)) ln191 (pd191 (aR 100) (aR 1)) <| ok_aloadn (pc' := 1) i191_0 rfl rfl <| ok_objinit (pc' := 4) i191_1 o191 m9_1 (by rw [hA1.1]; decide) (bt rfl) rfl <| ok_aloadn (pc' := 5) i191_4 rfl rfl <| ok_aloadn (pc' := 6) i191_5 rfl rfl <| ok_putfr (pc' := 9) i191_6 o191 pr191_7 (hA1.1) rfl <| ?_
  refine ok_vret i191_9 rt191 <| kt_0 (pc' := 8) rfl <| ok_astoren (pc' := 9) (ls' := [aR 1, aR 100, aU, aU, aU]) i0_8 (bt rfl) rfl rfl <| ?_
  refine ok_nw (sl := 16) (pc' := 12) i0_9 o0 ck13_142 (by decide) (by decide) rfl (fun x2 g2 M2 hx2 hn2 hA2 e2 => ?_)
  obtain rfl : x2 = 101 := by have h0 : gN (am_g0 L) = 0 := rfl; have h1 : 100 + gN g1 = x2 := hx2; omega
  refine ok_dup (pc' := 13) i0_12 rfl rfl <| ok_aloadn (pc' := 14) i0_13 rfl rfl <| ?_
  have h00 : gN (am_g0 L) = 0 ∧ gS (am_g0 L) = 0 := ⟨rfl, rfl⟩
  have F2 := (e1.of0 (F := fun c => c = 100)).upr (a := 100) (v := 1) (x := ((0 : Nat) : Int)) (Or.inl rfl)
  have F3 := Fr.trans F2 e2.of0
  have hB3 := BS_0 (L := L) (xs := xs) |>.fr F3 (fun c c0 h => by have h9 : c = 100 := h; omega)
  have hg1 : gN g1 = 1 := by omega
  have hr1 : gR g2 100 0 = 1 := (congrFun (e2.r0 (by show 100 < 100 + gN g1; omega)) 0).trans (show up2R (gR g1) 100 0 1 100 0 = 1 from up2R_at)
  have hD3 : Dr g2 M2 L 0 := ⟨(e2.k (by show 100 < 100 + gN g1; omega)).trans hA1.1, hr1, (F3.k (by omega)).trans (show (if 1 < 100 then am_k0 1 else 99) = 28 by decide), (F3.l (by omega)).trans rfl, (congrFun (e2.m0 (by show 100 < 100 + gN g1; omega)) 1).trans (hA1.2 1), by omega, hL⟩
  have hn22 : gN g2 = 2 := by have h1 : gN g2 = gN g1 + 1 := hn2; omega
  have hs22 : gS g2 ≤ 40 := by have h1 := F3.2.2.1; omega
  have h195 : Ok 20 195 0 [aR 101, aR 100, aU, aU, aU, aU, aU] [] g2 M2 (fun o g5 M5 => o = .inl none ∧ ∃ (d : Int) (t : Tx) (A : YA) (s q : Int → Int) (V : Nat) (C : Int), YI g5 M5 L d t A s q V C 194 1172 ∧ PI t q s ∧ (0 ≤ d ∧ d ≤ 47) ∧ t.1 ≤ 255 ∧ 1 ≤ q 0) := t195 (dd := 6) hn22 hs22 hA2.1 hA2.2 hD3 hB3 (fun g5 M5 d t A s q V C h1 h2 h3 h4 h5 => ⟨rfl, d, t, A, s, q, V, C, h1, h2, h3, h4, h5⟩)
  refine ok_cc i0_14 rfl (cl_i o0 (Or.inl m13_353) na195 rfl rfl (bt rfl) (bt rfl) rfl (by rw [hA2.1]; decide)) ln195 (pd195 (aR 101) (aR 100)) <| (Ok.deep h195 (by omega)).mono (fun o9 g5 M5 p5 => ?_)
  obtain ⟨rfl, d, t, A, s, q, V, C, H5, hPI, hd, ht, hq0⟩ := p5
  refine kt_0 (pc' := 17) rfl <| ok_astoren (pc' := 18) (ls' := [aR 1, aR 100, aR 101, aU, aU]) i0_17 (bt rfl) rfl rfl <| ?_
  refine ok_nw (sl := 16) (pc' := 21) i0_18 o0 ck13_18 (by decide) (by decide) rfl (fun O g3 M3 hx3 hn3 hA3 e3 => ?_)
  have hOY := (YI.y H5).re hx3
  refine ok_dup (pc' := 22) i0_21 rfl rfl <| ?_
  have hc5 := YI.c H5
  have hn5 := H_n H5
  have hz5 : (gS g5 : Int) ≤ 1172 + 2 * C := H5.2.2.2.2.2.2.2.2
  refine ok_cc i0_22 rfl (cl_i o0 (Or.inl m13_356) na87 rfl rfl (bt rfl) (bt rfl) rfl (by rw [hA3.1]; decide)) ln87 (pd87 (aR O)) <| (Ok.deep (t87 (O := O) (by omega) hA3.1 hA3.2) (by omega)).mono (fun o9 g9 M9 p9 => ?_)
  obtain ⟨ho9, hCF, f9⟩ := new_cf hx3 hn3 e3 p9
  subst ho9
  refine kt_0 (pc' := 25) rfl <| ok_astoren (pc' := 26) (ls' := [aR 1, aR 100, aR 101, aR O, aU]) i0_25 (bt rfl) rfl rfl <| ?_
  have hn9 := f9.2.1
  have hz9 := f9.2.2.1
  exact K _ _ O d t A s q V C (hOY.f0 f9) hCF ((YI.bs H5).f0 f9) ((YI.dr H5).f0 f9 (by omega)) ((YI.sb H5).fr f9 (fun h => h) (fun h => h)) (by rw [f9.r0 (by omega)]; exact YI.r H5) hPI hd ht hq0 (by omega) (by omega) (by omega)
