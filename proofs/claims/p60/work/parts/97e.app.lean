/-! APPEND (by program, wip/p60/gen) -/
theorem o89 : am_oc 89 = 0 := by decide +kernel
theorem rt89 : am_rt 89 = none := by decide +kernel
theorem o88 : am_oc 88 = 0 := by decide +kernel
theorem gi0_90 : am_gfi 0 90 0 1 = true := by decide +kernel
theorem m0_93 : am_mlk 0 93 0 89 = true := by decide +kernel
theorem na89 : am_na 89 = 2 := by decide +kernel
theorem nl89 : am_nL 89 = 3 := by decide +kernel
theorem pd89 : ∀ a0 a1 a2 : AV, am_pad 89 [a0, a1, a2] = [a0, a1, a2] := by intros; unfold am_pad; rw [nl89]; rfl
theorem ln89 : 3 ≤ am_nL 89 := by rw [nl89]; decide
theorem pi88_90 : am_pfi 88 0 90 0 1 = true := by decide +kernel
theorem rt88 : am_rt 88 = some .int := by decide +kernel
theorem bmc {a c : Int} (h : 0 ≤ c ∧ c ≤ 127) : (256 * a + c).bmod 256 = c := by
  rw [Int.bmod_def]
  split <;> omega
/-- four letters in a word -/
def Xw (h : Int → Int) (j : Int) : Int := 256 * (256 * (256 * h j + h (j + 1)) + h (j + 2)) + h (j + 3)
theorem t89 {g : AG} {M : AM} {O : Nat} {c0 c1 c2 c3 x : Int} (hG : CG g O) (hx : 0 ≤ x ∧ x ≤ 696) (h0 : 0 ≤ c0 ∧ c0 ≤ 127) (hc1 : 0 ≤ c1 ∧ c1 ≤ 127) (hc2 : 0 ≤ c2 ∧ c2 ≤ 127) (hc3 : 0 ≤ c3 ∧ c3 ≤ 127) : Ok 0 89 0 [aR O, aI (256 * (256 * (256 * c0 + c1) + c2) + c3), aI x] [] g M (Rt none g (fun M9 => M9 = up2 (up2 (up2 (up2 M (O + 1) x c0) (O + 1) (x + 1) c1) (O + 1) (x + 2) c2) (O + 1) (x + 3) c3)) := by
  have hZ : gK g (O + 1) = 21 ∧ gL g (O + 1) = 700 := ⟨hG.y.2.1, hG.y.2.2.1⟩
  refine ok_iloadn (pc' := 1) i89_0 rfl rfl <| ?_
  refine ok_zlt (pc1 := 11) (pc2 := 4) i89_1 (by omega) rfl rfl (fun h9 => by exfalso; omega) (fun h1 => ?_)
  refine ok_iloadn (pc' := 5) i89_4 rfl rfl <| ok_sipush (v := 696) (pc' := 8) i89_5 rfl rfl <| ?_
  refine ok_cle (pc1 := 12) (pc2 := 11) i89_8 (by omega) rfl rfl (fun h2 => ?_) (fun h9 => by exfalso; omega)
  refine ok_aloadn (pc' := 13) i89_12 rfl rfl <| ok_getfr (r := (O + 1)) (pc' := 16) i89_13 o89 gr0_9 (ShYard_k0 hG.y) (ShYard_r0 hG.y) rfl <| ok_iloadn (pc' := 17) i89_16 rfl rfl <| ok_iloadn (pc' := 18) i89_17 rfl rfl <| ok_bipush (v := 24) (pc' := 20) i89_18 rfl rfl <| ok_iushr (v := c0) (pc' := 21) i89_20 ((ushr_p (by omega) 24 (by decide)).trans (by rw [show ((2 ^ 24 : Nat) : Int) = 16777216 from rfl]; omega)) rfl <| ok_i2b (v := c0) (pc' := 22) i89_21 (bm127 (by omega)) rfl <| ok_bastore (v := c0) (pc' := 23) i89_22 (Or.inl hZ.1) hZ.2 (by omega) (bm127 (by omega)) rfl <| ?_
  refine ok_aloadn (pc' := 24) i89_23 rfl rfl <| ok_getfr (r := (O + 1)) (pc' := 27) i89_24 o89 gr0_9 (ShYard_k0 hG.y) (ShYard_r0 hG.y) rfl <| ok_iloadn (pc' := 28) i89_27 rfl rfl <| ok_iconst (pc' := 29) i89_28 rfl <| ok_iadd (v := (x + 1)) (pc' := 30) i89_29 rfl rfl <| ok_iloadn (pc' := 31) i89_30 rfl rfl <| ok_bipush (v := 16) (pc' := 33) i89_31 rfl rfl <| ok_iushr (v := (256 * c0 + c1)) (pc' := 34) i89_33 ((ushr_p (by omega) 16 (by decide)).trans (by rw [show ((2 ^ 16 : Nat) : Int) = 65536 from rfl]; omega)) rfl <| ?_
  refine ok_i2b (v := c1) (pc' := 35) i89_34 (bmc (by omega)) rfl <| ok_bastore (v := c1) (pc' := 36) i89_35 (Or.inl hZ.1) hZ.2 (by omega) (bm127 (by omega)) rfl <| ok_aloadn (pc' := 37) i89_36 rfl rfl <| ok_getfr (r := (O + 1)) (pc' := 40) i89_37 o89 gr0_9 (ShYard_k0 hG.y) (ShYard_r0 hG.y) rfl <| ok_iloadn (pc' := 41) i89_40 rfl rfl <| ok_iconst (pc' := 42) i89_41 rfl <| ok_iadd (v := (x + 2)) (pc' := 43) i89_42 rfl rfl <| ok_iloadn (pc' := 44) i89_43 rfl rfl <| ?_
  refine ok_bipush (v := 8) (pc' := 46) i89_44 rfl rfl <| ok_iushr (v := (256 * (256 * c0 + c1) + c2)) (pc' := 47) i89_46 ((ushr_p (by omega) 8 (by decide)).trans (by rw [show ((2 ^ 8 : Nat) : Int) = 256 from rfl]; omega)) rfl <| ok_i2b (v := c2) (pc' := 48) i89_47 (bmc (by omega)) rfl <| ok_bastore (v := c2) (pc' := 49) i89_48 (Or.inl hZ.1) hZ.2 (by omega) (bm127 (by omega)) rfl <| ok_aloadn (pc' := 50) i89_49 rfl rfl <| ok_getfr (r := (O + 1)) (pc' := 53) i89_50 o89 gr0_9 (ShYard_k0 hG.y) (ShYard_r0 hG.y) rfl <| ok_iloadn (pc' := 54) i89_53 rfl rfl <| ok_iconst (pc' := 55) i89_54 rfl <| ?_
  refine ok_iadd (v := (x + 3)) (pc' := 56) i89_55 rfl rfl <| ok_iloadn (pc' := 57) i89_56 rfl rfl <| ok_i2b (v := c3) (pc' := 58) i89_57 (bmc (by omega)) rfl <| ok_bastore (v := c3) (pc' := 59) i89_58 (Or.inl hZ.1) hZ.2 (by omega) (bm127 (by omega)) rfl <| ok_vret i89_59 rt89 <| ?_
  exact ⟨rfl, rfl, rfl⟩
theorem t89h {g : AG} {M : AM} {O : Nat} {h : Int → Int} {x : Int} (hG : CG g O) (hx : 0 ≤ x ∧ x ≤ 696) (hh : ∀ i : Int, 0 ≤ h i ∧ h i ≤ 127) : Ok 0 89 0 [aR O, aI (Xw h x), aI x] [] g M (Rt none g (fun M9 => (∀ i : Int, M9 (O + 1) i = if x ≤ i ∧ i < x + 4 then h i else M (O + 1) i) ∧ ∀ c : Nat, c ≠ O + 1 → M9 c = M c)) :=
  (t89 hG hx (hh x) (hh (x + 1)) (hh (x + 2)) (hh (x + 3))).mono (fun o g1 M1 p => by
    obtain ⟨p1, p2, p3⟩ := p
    refine ⟨p1, p2, fun i => ?_, fun c hc => ?_⟩
    · rw [p3]
      by_cases h3 : i = x + 3
      · subst h3; rw [rd_eq, if_pos (by omega)]
      · rw [rd_ni h3 rfl]
        by_cases h2 : i = x + 2
        · subst h2; rw [rd_eq, if_pos (by omega)]
        · rw [rd_ni h2 rfl]
          by_cases h1 : i = x + 1
          · subst h1; rw [rd_eq, if_pos (by omega)]
          · rw [rd_ni h1 rfl]
            by_cases h0 : i = x
            · subst h0; rw [rd_eq, if_pos (by omega)]
            · rw [rd_ni h0 rfl, if_neg (by omega)]
    · rw [p3, up2_na hc, up2_na hc, up2_na hc, up2_na hc])
/-- twenty letters more -/
theorem t88 {g : AG} {M : AM} {O : Nat} {h : Int → Int} {p : Int} (hG : CG g O) (hp : M O 1 = p) (hp0 : 0 ≤ p ∧ p ≤ 680) (hh : ∀ i : Int, 0 ≤ h i ∧ h i ≤ 127) : Ok 1 88 0 [aR O, aI (Xw h p), aI (Xw h (p + 4)), aI (Xw h (p + 8)), aI (Xw h (p + 12)), aI (Xw h (p + 16))] [] g M (Rt (some (aI (p + 20))) g (fun M9 => M9 O 1 = p + 20 ∧ (∀ i : Int, M9 (O + 1) i = if p ≤ i ∧ i < p + 20 then h i else M (O + 1) i) ∧ (∀ y : Int, y ≠ 1 → M9 O y = M O y) ∧ ∀ c : Nat, c ≠ O → c ≠ O + 1 → M9 c = M c)) := by
  refine ok_aloadn (pc' := 1) i88_0 rfl rfl <| ok_getfi (v := p) (pc' := 4) i88_1 o88 gi0_90 (ShYard_k0 hG.y) (hp) rfl <| ?_
  refine ok_zlt (pc1 := 17) (pc2 := 7) i88_4 (by omega) rfl rfl (fun h9 => by exfalso; omega) (fun h1 => ?_)
  refine ok_aloadn (pc' := 8) i88_7 rfl rfl <| ok_getfi (v := p) (pc' := 11) i88_8 o88 gi0_90 (ShYard_k0 hG.y) (hp) rfl <| ok_sipush (v := 680) (pc' := 14) i88_11 rfl rfl <| ?_
  refine ok_cle (pc1 := 19) (pc2 := 17) i88_14 (by omega) rfl rfl (fun h2 => ?_) (fun h9 => by exfalso; omega)
  refine ok_aloadn (pc' := 20) i88_19 rfl rfl <| ok_iloadn (pc' := 21) i88_20 rfl rfl <| ok_aloadn (pc' := 22) i88_21 rfl rfl <| ok_getfi (v := p) (pc' := 25) i88_22 o88 gi0_90 (ShYard_k0 hG.y) (hp) rfl <| ?_
  refine ok_cc i88_25 rfl (cl_v o88 m0_93 na89 rfl rfl (bt rfl) (bt rfl) rfl (by rw [ShYard_k0 hG.y, o89])) ln89 (pd89 (aR O) (aI (Xw h p)) (aI p)) <| (Ok.deep (t89h (h := h) (x := p) hG (by omega) hh) (by omega)).mono (fun o9 g1p M1p p1p => ?_)
  obtain ⟨rfl, eg1, hb1, ho1⟩ := p1p
  rw [eg1]
  have hp1 : M1p O 1 = p := by rw [ho1 O (by omega)]; exact hp
  refine kt_0 (pc' := 28) rfl <| ok_aloadn (pc' := 29) i88_28 rfl rfl <| ok_iloadn (pc' := 30) i88_29 rfl rfl <| ok_aloadn (pc' := 31) i88_30 rfl rfl <| ok_getfi (v := p) (pc' := 34) i88_31 o88 gi0_90 (ShYard_k0 hG.y) (hp1) rfl <| ok_iconst (pc' := 35) i88_34 rfl <| ok_iadd (v := (p + 4)) (pc' := 36) i88_35 rfl rfl <| ?_
  refine ok_cc i88_36 rfl (cl_v o88 m0_93 na89 rfl rfl (bt rfl) (bt rfl) rfl (by rw [ShYard_k0 hG.y, o89])) ln89 (pd89 (aR O) (aI (Xw h (p + 4))) (aI (p + 4))) <| (Ok.deep (t89h (h := h) (x := (p + 4)) hG (by omega) hh) (by omega)).mono (fun o9 g2p M2p p2p => ?_)
  obtain ⟨rfl, eg2, hb2, ho2⟩ := p2p
  rw [eg2]
  have hp2 : M2p O 1 = p := by rw [ho2 O (by omega)]; exact hp1
  refine kt_0 (pc' := 39) rfl <| ok_aloadn (pc' := 40) i88_39 rfl rfl <| ok_iloadn (pc' := 41) i88_40 rfl rfl <| ok_aloadn (pc' := 42) i88_41 rfl rfl <| ok_getfi (v := p) (pc' := 45) i88_42 o88 gi0_90 (ShYard_k0 hG.y) (hp2) rfl <| ok_bipush (v := 8) (pc' := 47) i88_45 rfl rfl <| ok_iadd (v := (p + 8)) (pc' := 48) i88_47 rfl rfl <| ?_
  refine ok_cc i88_48 rfl (cl_v o88 m0_93 na89 rfl rfl (bt rfl) (bt rfl) rfl (by rw [ShYard_k0 hG.y, o89])) ln89 (pd89 (aR O) (aI (Xw h (p + 8))) (aI (p + 8))) <| (Ok.deep (t89h (h := h) (x := (p + 8)) hG (by omega) hh) (by omega)).mono (fun o9 g3p M3p p3p => ?_)
  obtain ⟨rfl, eg3, hb3, ho3⟩ := p3p
  rw [eg3]
  have hp3 : M3p O 1 = p := by rw [ho3 O (by omega)]; exact hp2
  refine kt_0 (pc' := 51) rfl <| ok_aloadn (pc' := 52) i88_51 rfl rfl <| ok_iload (pc' := 54) i88_52 rfl rfl <| ok_aloadn (pc' := 55) i88_54 rfl rfl <| ok_getfi (v := p) (pc' := 58) i88_55 o88 gi0_90 (ShYard_k0 hG.y) (hp3) rfl <| ok_bipush (v := 12) (pc' := 60) i88_58 rfl rfl <| ok_iadd (v := (p + 12)) (pc' := 61) i88_60 rfl rfl <| ?_
  refine ok_cc i88_61 rfl (cl_v o88 m0_93 na89 rfl rfl (bt rfl) (bt rfl) rfl (by rw [ShYard_k0 hG.y, o89])) ln89 (pd89 (aR O) (aI (Xw h (p + 12))) (aI (p + 12))) <| (Ok.deep (t89h (h := h) (x := (p + 12)) hG (by omega) hh) (by omega)).mono (fun o9 g4p M4p p4p => ?_)
  obtain ⟨rfl, eg4, hb4, ho4⟩ := p4p
  rw [eg4]
  have hp4 : M4p O 1 = p := by rw [ho4 O (by omega)]; exact hp3
  refine kt_0 (pc' := 64) rfl <| ok_aloadn (pc' := 65) i88_64 rfl rfl <| ok_iload (pc' := 67) i88_65 rfl rfl <| ok_aloadn (pc' := 68) i88_67 rfl rfl <| ok_getfi (v := p) (pc' := 71) i88_68 o88 gi0_90 (ShYard_k0 hG.y) (hp4) rfl <| ok_bipush (v := 16) (pc' := 73) i88_71 rfl rfl <| ok_iadd (v := (p + 16)) (pc' := 74) i88_73 rfl rfl <| ?_
  refine ok_cc i88_74 rfl (cl_v o88 m0_93 na89 rfl rfl (bt rfl) (bt rfl) rfl (by rw [ShYard_k0 hG.y, o89])) ln89 (pd89 (aR O) (aI (Xw h (p + 16))) (aI (p + 16))) <| (Ok.deep (t89h (h := h) (x := (p + 16)) hG (by omega) hh) (by omega)).mono (fun o9 g5p M5p p5p => ?_)
  obtain ⟨rfl, eg5, hb5, ho5⟩ := p5p
  rw [eg5]
  have hp5 : M5p O 1 = p := by rw [ho5 O (by omega)]; exact hp4
  refine kt_0 (pc' := 77) rfl <| ok_aloadn (pc' := 78) i88_77 rfl rfl <| ok_dup (pc' := 79) i88_78 rfl rfl <| ok_getfi (v := p) (pc' := 82) i88_79 o88 gi0_90 (ShYard_k0 hG.y) (hp5) rfl <| ok_bipush (v := 20) (pc' := 84) i88_82 rfl rfl <| ok_iadd (v := (p + 20)) (pc' := 85) i88_84 rfl rfl <| ok_putfj (kk := 1) (pc' := 88) i88_85 o88 pi88_90 (ShYard_k0 hG.y) rfl rfl <| ok_aloadn (pc' := 89) i88_88 rfl rfl <| ?_
  refine ok_getfi (v := (p + 20)) (pc' := 92) i88_89 o88 gi0_90 (ShYard_k0 hG.y) (rd_eq) rfl <| ok_ireti i88_92 rt88 <| ?_
  refine ⟨rfl, rfl, rd_eq, fun i => ?_, fun y hy => ?_, fun c c1 c2 => ?_⟩
  · rw [up2_na (by omega), hb5, hb4, hb3, hb2, hb1]; (repeat' split) <;> first | rfl | (exfalso; omega)
  · rw [rd_ni hy rfl, ho5 O (by omega), ho4 O (by omega), ho3 O (by omega), ho2 O (by omega), ho1 O (by omega)]
  · rw [up2_na c1, ho5 c c2, ho4 c c2, ho3 c c2, ho2 c c2, ho1 c c2]
