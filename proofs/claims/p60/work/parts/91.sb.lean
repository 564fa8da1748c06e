/-! STRINGBUILDER: its methods (by program, wip/p60/gen) -/
theorem o169 : am_oc 169 = 24 := by decide +kernel
theorem gr24_15 : am_gfr 24 15 18 0 = true := by decide +kernel
theorem gi24_22 : am_gfi 24 22 18 1 = true := by decide +kernel
theorem rt169 : am_rt 169 = none := by decide +kernel
theorem m24_104 : am_mlk 24 104 8 170 = true := by decide +kernel
theorem na170 : am_na 170 = 1 := by decide +kernel
theorem nl170 : am_nL 170 = 6 := by decide +kernel
theorem pd170 : ∀ a0 a1 : AV, am_pad 170 [a0, a1] = [a0, a1, aU, aU, aU, aU] := by intros; unfold am_pad; rw [nl170]; rfl
theorem ln170 : 2 ≤ am_nL 170 := by rw [nl170]; decide
theorem o170 : am_oc 170 = 24 := by decide +kernel
theorem m24_114 : am_mlk 24 114 1 164 = true := by decide +kernel
theorem na164 : am_na 164 = 3 := by decide +kernel
theorem nl164 : am_nL 164 = 4 := by decide +kernel
theorem pd164 : ∀ a0 a1 a2 : AV, am_pad 164 [a0, a1, a2] = [a0, a1, a2, aU] := by intros; unfold am_pad; rw [nl164]; rfl
theorem ln164 : 3 ≤ am_nL 164 := by rw [nl164]; decide
theorem o164 : am_oc 164 = 26 := by decide +kernel
theorem m26_194 : am_mlk 26 194 6 0 = true := by decide +kernel
theorem ct26_200 : (am_ct 26 200).map (fun q => q.2.1) = some 2147483639 := by decide +kernel
theorem rt164 : am_rt 164 = some .int := by decide +kernel
theorem ct24_39 : (am_ct 24 39).map (fun q => q.2.1) = some 2147483647 := by decide +kernel
theorem rt170 : am_rt 170 = some .int := by decide +kernel
theorem m24_108 : am_mlk 24 108 1 160 = true := by decide +kernel
theorem na160 : am_na 160 = 2 := by decide +kernel
theorem nl160 : am_nL 160 = 3 := by decide +kernel
theorem pd160 : ∀ a0 a1 : AV, am_pad 160 [a0, a1] = [a0, a1, aU] := by intros; unfold am_pad; rw [nl160]; rfl
theorem ln160 : 2 ≤ am_nL 160 := by rw [nl160]; decide
theorem o160 : am_oc 160 = 25 := by decide +kernel
theorem m25_304 : am_mlk 25 304 7 0 = true := by decide +kernel
theorem m25_150 : am_mlk 25 150 4 0 = true := by decide +kernel
theorem rt160 : am_rt 160 = some (.array .byte) := by decide +kernel
theorem pr169_15 : am_pfr 169 24 15 18 0 = true := by decide +kernel
theorem t169 {g : AG} {M : AM} {B V : Nat} {C : Int} {t : Tx} {m : Int} (hS : SB g M B V C t) (hC : C ≤ 4000) (hm : 0 ≤ m ∧ m ≤ 2000) : Ok 3 169 0 [aR B, aI m, aU] [] g M (fun o g1 M1 => o = .inl none ∧ ∃ (V1 : Nat) (C1 : Int), SB g1 M1 B V1 C1 t ∧ m ≤ C1 ∧ Gr g M g1 M1 B V V1 C C1 m) := by
  have hz := hS.z
  have hA := hS.a
  refine ok_aloadn (pc' := 1) i169_0 rfl rfl <| ok_getfr (r := V) (pc' := 4) i169_1 o169 gr24_15 (hS.k) (hS.r) rfl <| ok_arrlen (v := C) (pc' := 5) i169_4 (hS.v) (by decide) (hS.l) rfl <| ok_aloadn (pc' := 6) i169_5 rfl rfl <| ok_getfi (v := 0) (pc' := 9) i169_6 o169 gi24_22 (hS.k) (hS.c) rfl <| ok_ishr (v := C) (pc' := 10) i169_9 (shr0 (by omega)) rfl <| ok_istoren (pc' := 11) (ls' := [aR B, aI m, aI C]) i169_10 (bt rfl) rfl rfl <| ok_iloadn (pc' := 12) i169_11 rfl rfl <| ?_
  refine ok_iloadn (pc' := 13) i169_12 rfl rfl <| ok_isub (v := (m - C)) (pc' := 14) i169_13 rfl rfl <| ?_
  refine ok_zle (pc1 := 38) (pc2 := 17) i169_14 (by omega) rfl rfl (fun h1 => ?_) (fun h1 => ?_)
  · refine ok_vret i169_38 rt169 <| ?_
    exact ⟨rfl, _, _, hS, by omega, Gr.rfl⟩
  · refine ok_aloadn (pc' := 18) i169_17 rfl rfl <| ok_aloadn (pc' := 19) i169_18 rfl rfl <| ok_getfr (r := V) (pc' := 22) i169_19 o169 gr24_15 (hS.k) (hS.r) rfl <| ok_aloadn (pc' := 23) i169_22 rfl rfl <| ok_iloadn (pc' := 24) i169_23 rfl rfl <| ok_cc i169_24 rfl (cl_u o169 m24_104 na170 rfl rfl (bt rfl) (bt rfl) rfl hS.k) ln170 (pd170 (aR B) (aI m)) <| ok_aloadn (pc' := 1) i170_0 rfl rfl <| ok_getfr (r := V) (pc' := 4) i170_1 o170 gr24_15 (hS.k) (hS.r) rfl <| ?_
    refine ok_arrlen (v := C) (pc' := 5) i170_4 (hS.v) (by decide) (hS.l) rfl <| ok_istoren (pc' := 6) (ls' := [aR B, aI m, aI C, aU, aU, aU]) i170_5 (bt rfl) rfl rfl <| ok_iloadn (pc' := 7) i170_6 rfl rfl <| ok_aloadn (pc' := 8) i170_7 rfl rfl <| ok_getfi (v := 0) (pc' := 11) i170_8 o170 gi24_22 (hS.k) (hS.c) rfl <| ok_ishl (v := m) (pc' := 12) i170_11 (shl0 (by omega)) rfl <| ok_istoren (pc' := 13) (ls' := [aR B, aI m, aI C, aI m, aU, aU]) i170_12 (bt rfl) rfl rfl <| ok_iloadn (pc' := 14) i170_13 rfl rfl <| ?_
    refine ok_iloadn (pc' := 15) i170_14 rfl rfl <| ok_isub (v := (m - C)) (pc' := 16) i170_15 rfl rfl <| ok_istore (pc' := 18) (ls' := [aR B, aI m, aI C, aI m, aI (m - C), aU]) i170_16 (bt rfl) rfl rfl <| ok_iloadn (pc' := 19) i170_18 rfl rfl <| ok_iload (pc' := 21) i170_19 rfl rfl <| ok_iloadn (pc' := 22) i170_21 rfl rfl <| ok_iconst (pc' := 23) i170_22 rfl <| ok_aloadn (pc' := 24) i170_23 rfl rfl <| ?_
    refine ok_getfi (v := 0) (pc' := 27) i170_24 o170 gi24_22 (hS.k) (hS.c) rfl <| ok_ishl (v := 2) (pc' := 28) i170_27 rfl rfl <| ok_iadd (v := (C + 2)) (pc' := 29) i170_28 rfl rfl <| ok_cc i170_29 rfl (cl_s o170 m24_114 na164 rfl rfl (bt rfl) (bt rfl) rfl) ln164 (pd164 (aI C) (aI (m - C)) (aI (C + 2))) <| ok_iloadn (pc' := 1) i164_0 rfl rfl <| ok_iloadn (pc' := 2) i164_1 rfl rfl <| ok_iloadn (pc' := 3) i164_2 rfl rfl <| ok_max (v := (max (m - C) (C + 2))) (pc' := 6) i164_3 o164 m26_194 (by omega) (bt rfl) rfl rfl <| ?_
    have z2 : (m - C) ≤ (max (m - C) (C + 2)) ∧ (C + 2) ≤ (max (m - C) (C + 2)) := by omega
    have z3 : (max (m - C) (C + 2)) ≤ 6100 := by omega
    refine ok_iadd (v := (C + (max (m - C) (C + 2)))) (pc' := 7) i164_6 rfl rfl <| ok_istoren (pc' := 8) (ls' := [aI C, aI (m - C), aI (C + 2), aI (C + (max (m - C) (C + 2)))]) i164_7 (bt rfl) rfl rfl <| ok_iconst (pc' := 9) i164_8 rfl <| ok_iloadn (pc' := 10) i164_9 rfl rfl <| ?_
    refine ok_cge (pc1 := 21) (pc2 := 13) i164_10 (by omega) rfl rfl (fun h9 => by exfalso; omega) (fun h4 => ?_)
    refine ok_iloadn (pc' := 14) i164_13 rfl rfl <| ok_ldct (x := 2147483639) (pc' := 16) i164_14 o164 ct26_200 rfl <| ?_
    refine ok_cgt (pc1 := 21) (pc2 := 19) i164_16 (by omega) rfl rfl (fun h9 => by exfalso; omega) (fun h5 => ?_)
    refine ok_iloadn (pc' := 20) i164_19 rfl rfl <| ok_ireti i164_20 rt164 <| kt_v (pc' := 32) rfl <| ok_istore (pc' := 34) (ls' := [aR B, aI m, aI C, aI m, aI (m - C), aI (C + (max (m - C) (C + 2)))]) i170_32 (bt rfl) rfl rfl <| ok_iload (pc' := 36) i170_34 rfl rfl <| ok_ldct (x := 2147483647) (pc' := 38) i170_36 o170 ct24_39 rfl <| ?_
    refine ok_cne (pc1 := 51) (pc2 := 41) i170_38 (by omega) rfl rfl (fun h6 => ?_) (fun h9 => by exfalso; omega)
    refine ok_iload (pc' := 53) i170_51 rfl rfl <| ok_aloadn (pc' := 54) i170_53 rfl rfl <| ok_getfi (v := 0) (pc' := 57) i170_54 o170 gi24_22 (hS.k) (hS.c) rfl <| ok_ishr (v := (C + (max (m - C) (C + 2)))) (pc' := 58) i170_57 (shr0 (by omega)) rfl <| ok_ireti i170_58 rt170 <| kt_v (pc' := 27) rfl <| ok_aloadn (pc' := 28) i169_27 rfl rfl <| ok_getfi (v := 0) (pc' := 31) i169_28 o169 gi24_22 (hS.k) (hS.c) rfl <| ?_
    refine ok_ishl (v := (C + (max (m - C) (C + 2)))) (pc' := 32) i169_31 (shl0 (by omega)) rfl <| ok_cc i169_32 rfl (cl_s o169 m24_108 na160 rfl rfl (bt rfl) (bt rfl) rfl) ln160 (pd160 (aR V) (aI (C + (max (m - C) (C + 2))))) <| ok_iloadn (pc' := 1) i160_0 rfl rfl <| ok_aloadn (pc' := 2) i160_1 rfl rfl <| ok_arrlen (v := C) (pc' := 3) i160_2 (hS.v) (by decide) (hS.l) rfl <| ?_
    refine ok_cne (pc1 := 14) (pc2 := 6) i160_3 (by omega) rfl rfl (fun h7 => ?_) (fun h9 => by exfalso; omega)
    refine ok_iloadn (pc' := 15) i160_14 rfl rfl <| ?_
    refine ok_nba (pc' := 17) i160_15 (by omega) rfl (fun xb8 gb8 Mb8 hx8 hn8 hk8 hz8 eb8 => ?_)
    have hSb8 := SB.fr hS eb8 (fun e => e) (fun e => e)
    refine ok_astoren (pc' := 18) (ls' := [aR V, aI (C + (max (m - C) (C + 2))), aR xb8]) i160_17 (bt rfl) rfl rfl <| ok_aloadn (pc' := 19) i160_18 rfl rfl <| ok_iconst (pc' := 20) i160_19 rfl <| ok_aloadn (pc' := 21) i160_20 rfl rfl <| ok_iconst (pc' := 22) i160_21 rfl <| ok_aloadn (pc' := 23) i160_22 rfl rfl <| ok_arrlen (v := C) (pc' := 24) i160_23 (hSb8.v) (by decide) (hSb8.l) rfl <| ok_iloadn (pc' := 25) i160_24 rfl rfl <| ?_
    refine ok_min (v := (min C (C + (max (m - C) (C + 2))))) (pc' := 28) i160_25 o160 m25_304 (by omega) (bt rfl) rfl rfl <| ?_
    have z9 : (min C (C + (max (m - C) (C + 2)))) ≤ C ∧ (min C (C + (max (m - C) (C + 2)))) ≤ (C + (max (m - C) (C + 2))) := by omega
    have z10 : 0 ≤ (min C (C + (max (m - C) (C + 2)))) := by omega
    rw [show (min C (C + (max (m - C) (C + 2)))) = C by omega]
    have hl1 : (gL gb8 V : Int) = C := hSb8.l
    have hl2 := hk8.2
    refine ok_bcopy (pc' := 31) i160_28 o160 m25_150 hk8.1 (Or.inl hSb8.v) rfl rfl (by omega) (bt rfl) rfl <| ok_aloadn (pc' := 32) i160_31 rfl rfl <| ok_aret i160_32 (by rw [rt160]) <| kt_v (pc' := 35) rfl <| ok_putfr (pc' := 38) i169_35 o169 pr169_15 (hSb8.k) rfl <| ok_vret i169_38 rt169 <| ?_
    have hG9 := SB.grow (m := m) hS hx8 hn8 hk8 eb8 rfl (by omega)
    exact ⟨rfl, _, _, hG9⟩
