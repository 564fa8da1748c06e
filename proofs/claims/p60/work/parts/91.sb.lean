/-! STRINGBUILDER: its methods (by program, wip/p60/gen) -/
theorem o169 : am_oc 169 = 24 := by decide +kernel
theorem gr24_15 : am_gfr 24 15 18 0 = true := by decide +kernel
theorem gi24_22 : am_gfi 24 22 18 1 = true := by decide +kernel
theorem rt169 : am_rt 169 = none := by decide +kernel
theorem m24_104 : am_mlk 24 104 8 170 = true := by decide +kernel
theorem na170 : am_na 170 = 1 := by decide +kernel
theorem nl170 : am_nL 170 = 6 := by decide +kernel
theorem pd170 : ∀ a0 a1 : AV, am_pad 170 [a0, a1] = [a0, a1, aU, aU, aU, aU] := by intros; unfold am_pad; rw [nl170]; rfl
theorem ln170 : 2 ≤ am_nL 170 := by rw [nl170]; decide
theorem o170 : am_oc 170 = 24 := by decide +kernel
theorem m24_114 : am_mlk 24 114 1 164 = true := by decide +kernel
theorem na164 : am_na 164 = 3 := by decide +kernel
theorem nl164 : am_nL 164 = 4 := by decide +kernel
theorem pd164 : ∀ a0 a1 a2 : AV, am_pad 164 [a0, a1, a2] = [a0, a1, a2, aU] := by intros; unfold am_pad; rw [nl164]; rfl
theorem ln164 : 3 ≤ am_nL 164 := by rw [nl164]; decide
theorem o164 : am_oc 164 = 26 := by decide +kernel
theorem m26_194 : am_mlk 26 194 6 0 = true := by decide +kernel
theorem ct26_200 : (am_ct 26 200).map (fun q => q.2.1) = some 2147483639 := by decide +kernel
theorem rt164 : am_rt 164 = some .int := by decide +kernel
theorem ct24_39 : (am_ct 24 39).map (fun q => q.2.1) = some 2147483647 := by decide +kernel
theorem rt170 : am_rt 170 = some .int := by decide +kernel
theorem m24_108 : am_mlk 24 108 1 160 = true := by decide +kernel
theorem na160 : am_na 160 = 2 := by decide +kernel
theorem nl160 : am_nL 160 = 3 := by decide +kernel
theorem pd160 : ∀ a0 a1 : AV, am_pad 160 [a0, a1] = [a0, a1, aU] := by intros; unfold am_pad; rw [nl160]; rfl
theorem ln160 : 2 ≤ am_nL 160 := by rw [nl160]; decide
theorem o160 : am_oc 160 = 25 := by decide +kernel
theorem m25_304 : am_mlk 25 304 7 0 = true := by decide +kernel
theorem m25_150 : am_mlk 25 150 4 0 = true := by decide +kernel
theorem rt160 : am_rt 160 = some (.array .byte) := by decide +kernel
theorem pr169_15 : am_pfr 169 24 15 18 0 = true := by decide +kernel
theorem o185 : am_oc 185 = 18 := by decide +kernel
theorem m18_50 : am_mlk 18 50 10 175 = true := by decide +kernel
theorem na175 : am_na 175 = 1 := by decide +kernel
theorem nl175 : am_nL 175 = 2 := by decide +kernel
theorem pd175 : ∀ a0 a1 : AV, am_pad 175 [a0, a1] = [a0, a1] := by intros; unfold am_pad; rw [nl175]; rfl
theorem ln175 : 2 ≤ am_nL 175 := by rw [nl175]; decide
theorem o175 : am_oc 175 = 24 := by decide +kernel
theorem gi24_79 : am_gfi 24 79 18 3 = true := by decide +kernel
theorem m24_100 : am_mlk 24 100 8 169 = true := by decide +kernel
theorem na169 : am_na 169 = 1 := by decide +kernel
theorem nl169 : am_nL 169 = 3 := by decide +kernel
theorem pd169 : ∀ a0 a1 : AV, am_pad 169 [a0, a1] = [a0, a1, aU] := by intros; unfold am_pad; rw [nl169]; rfl
theorem ln169 : 2 ≤ am_nL 169 := by rw [nl169]; decide
theorem m24_83 : am_mlk 24 83 8 171 = true := by decide +kernel
theorem na171 : am_na 171 = 0 := by decide +kernel
theorem nl171 : am_nL 171 = 1 := by decide +kernel
theorem pd171 : ∀ a0 : AV, am_pad 171 [a0] = [a0] := by intros; unfold am_pad; rw [nl171]; rfl
theorem ln171 : 1 ≤ am_nL 171 := by rw [nl171]; decide
theorem o171 : am_oc 171 = 24 := by decide +kernel
theorem rt171 : am_rt 171 = some .boolean := by decide +kernel
theorem m24_191 : am_mlk 24 191 1 159 = true := by decide +kernel
theorem na159 : am_na 159 = 1 := by decide +kernel
theorem nl159 : am_nL 159 = 1 := by decide +kernel
theorem pd159 : ∀ a0 : AV, am_pad 159 [a0] = [a0] := by intros; unfold am_pad; rw [nl159]; rfl
theorem ln159 : 1 ≤ am_nL 159 := by rw [nl159]; decide
theorem o159 : am_oc 159 = 20 := by decide +kernel
theorem rt159 : am_rt 159 = some .boolean := by decide +kernel
theorem pi175_79 : am_pfi 175 24 79 18 3 = true := by decide +kernel
theorem rt175 : am_rt 175 = some (.object "java/lang/AbstractStringBuilder") := by decide +kernel
theorem rt185 : am_rt 185 = some (.object "java/lang/StringBuilder") := by decide +kernel
theorem rt165 : am_rt 165 = some .int := by decide +kernel
theorem o166 : am_oc 166 = 27 := by decide +kernel
theorem rt166 : am_rt 166 = some .int := by decide +kernel
theorem t169 {g : AG} {M : AM} {B V : Nat} {C : Int} {t : Tx} {m : Int} (hS : SB g M B V C t) (hC : C ≤ 4000) (hm : 0 ≤ m ∧ m ≤ 2000) : Ok 3 169 0 [aR B, aI m, aU] [] g M (fun o g1 M1 => o = .inl none ∧ ∃ (V1 : Nat) (C1 : Int), SB g1 M1 B V1 C1 t ∧ m ≤ C1 ∧ Gr g M g1 M1 B V V1 C C1 m) := by
  have hz := hS.z
  have hA := hS.a
  refine ok_aloadn (pc' := 1) i169_0 rfl rfl <| ok_getfr (r := V) (pc' := 4) i169_1 o169 gr24_15 (hS.k) (hS.r) rfl <| ok_arrlen (v := C) (pc' := 5) i169_4 (hS.v) (by decide) (hS.l) rfl <| ok_aloadn (pc' := 6) i169_5 rfl rfl <| ok_getfi (v := 0) (pc' := 9) i169_6 o169 gi24_22 (hS.k) (hS.c) rfl <| ok_ishr (v := C) (pc' := 10) i169_9 (shr0 (by omega)) rfl <| ok_istoren (pc' := 11) (ls' := [aR B, aI m, aI C]) i169_10 (bt rfl) rfl rfl <| ok_iloadn (pc' := 12) i169_11 rfl rfl <| ?_
  refine ok_iloadn (pc' := 13) i169_12 rfl rfl <| ok_isub (v := (m - C)) (pc' := 14) i169_13 rfl rfl <| ?_
  refine ok_zle (pc1 := 38) (pc2 := 17) i169_14 (by omega) rfl rfl (fun h1 => ?_) (fun h1 => ?_)
  · refine ok_vret i169_38 rt169 <| ?_
    exact ⟨rfl, _, _, hS, by omega, Gr.rfl⟩
  · refine ok_aloadn (pc' := 18) i169_17 rfl rfl <| ok_aloadn (pc' := 19) i169_18 rfl rfl <| ok_getfr (r := V) (pc' := 22) i169_19 o169 gr24_15 (hS.k) (hS.r) rfl <| ok_aloadn (pc' := 23) i169_22 rfl rfl <| ok_iloadn (pc' := 24) i169_23 rfl rfl <| ok_cc i169_24 rfl (cl_u o169 m24_104 na170 rfl rfl (bt rfl) (bt rfl) rfl hS.k) ln170 (pd170 (aR B) (aI m)) <| ok_aloadn (pc' := 1) i170_0 rfl rfl <| ok_getfr (r := V) (pc' := 4) i170_1 o170 gr24_15 (hS.k) (hS.r) rfl <| ?_
    refine ok_arrlen (v := C) (pc' := 5) i170_4 (hS.v) (by decide) (hS.l) rfl <| ok_istoren (pc' := 6) (ls' := [aR B, aI m, aI C, aU, aU, aU]) i170_5 (bt rfl) rfl rfl <| ok_iloadn (pc' := 7) i170_6 rfl rfl <| ok_aloadn (pc' := 8) i170_7 rfl rfl <| ok_getfi (v := 0) (pc' := 11) i170_8 o170 gi24_22 (hS.k) (hS.c) rfl <| ok_ishl (v := m) (pc' := 12) i170_11 (shl0 (by omega)) rfl <| ok_istoren (pc' := 13) (ls' := [aR B, aI m, aI C, aI m, aU, aU]) i170_12 (bt rfl) rfl rfl <| ok_iloadn (pc' := 14) i170_13 rfl rfl <| ?_
    refine ok_iloadn (pc' := 15) i170_14 rfl rfl <| ok_isub (v := (m - C)) (pc' := 16) i170_15 rfl rfl <| ok_istore (pc' := 18) (ls' := [aR B, aI m, aI C, aI m, aI (m - C), aU]) i170_16 (bt rfl) rfl rfl <| ok_iloadn (pc' := 19) i170_18 rfl rfl <| ok_iload (pc' := 21) i170_19 rfl rfl <| ok_iloadn (pc' := 22) i170_21 rfl rfl <| ok_iconst (pc' := 23) i170_22 rfl <| ok_aloadn (pc' := 24) i170_23 rfl rfl <| ?_
    refine ok_getfi (v := 0) (pc' := 27) i170_24 o170 gi24_22 (hS.k) (hS.c) rfl <| ok_ishl (v := 2) (pc' := 28) i170_27 rfl rfl <| ok_iadd (v := (C + 2)) (pc' := 29) i170_28 rfl rfl <| ok_cc i170_29 rfl (cl_s o170 m24_114 na164 rfl rfl (bt rfl) (bt rfl) rfl) ln164 (pd164 (aI C) (aI (m - C)) (aI (C + 2))) <| ok_iloadn (pc' := 1) i164_0 rfl rfl <| ok_iloadn (pc' := 2) i164_1 rfl rfl <| ok_iloadn (pc' := 3) i164_2 rfl rfl <| ok_max (v := (max (m - C) (C + 2))) (pc' := 6) i164_3 o164 m26_194 (by omega) (bt rfl) rfl rfl <| ?_
    have z2 : (m - C) ≤ (max (m - C) (C + 2)) ∧ (C + 2) ≤ (max (m - C) (C + 2)) := by omega
    have z3 : (max (m - C) (C + 2)) ≤ 6100 := by omega
    refine ok_iadd (v := (C + (max (m - C) (C + 2)))) (pc' := 7) i164_6 rfl rfl <| ok_istoren (pc' := 8) (ls' := [aI C, aI (m - C), aI (C + 2), aI (C + (max (m - C) (C + 2)))]) i164_7 (bt rfl) rfl rfl <| ok_iconst (pc' := 9) i164_8 rfl <| ok_iloadn (pc' := 10) i164_9 rfl rfl <| ?_
    refine ok_cge (pc1 := 21) (pc2 := 13) i164_10 (by omega) rfl rfl (fun h9 => by exfalso; omega) (fun h4 => ?_)
    refine ok_iloadn (pc' := 14) i164_13 rfl rfl <| ok_ldct (x := 2147483639) (pc' := 16) i164_14 o164 ct26_200 rfl <| ?_
    refine ok_cgt (pc1 := 21) (pc2 := 19) i164_16 (by omega) rfl rfl (fun h9 => by exfalso; omega) (fun h5 => ?_)
    refine ok_iloadn (pc' := 20) i164_19 rfl rfl <| ok_ireti i164_20 rt164 <| kt_v (pc' := 32) rfl <| ok_istore (pc' := 34) (ls' := [aR B, aI m, aI C, aI m, aI (m - C), aI (C + (max (m - C) (C + 2)))]) i170_32 (bt rfl) rfl rfl <| ok_iload (pc' := 36) i170_34 rfl rfl <| ok_ldct (x := 2147483647) (pc' := 38) i170_36 o170 ct24_39 rfl <| ?_
    refine ok_cne (pc1 := 51) (pc2 := 41) i170_38 (by omega) rfl rfl (fun h6 => ?_) (fun h9 => by exfalso; omega)
    refine ok_iload (pc' := 53) i170_51 rfl rfl <| ok_aloadn (pc' := 54) i170_53 rfl rfl <| ok_getfi (v := 0) (pc' := 57) i170_54 o170 gi24_22 (hS.k) (hS.c) rfl <| ok_ishr (v := (C + (max (m - C) (C + 2)))) (pc' := 58) i170_57 (shr0 (by omega)) rfl <| ok_ireti i170_58 rt170 <| kt_v (pc' := 27) rfl <| ok_aloadn (pc' := 28) i169_27 rfl rfl <| ok_getfi (v := 0) (pc' := 31) i169_28 o169 gi24_22 (hS.k) (hS.c) rfl <| ?_
    refine ok_ishl (v := (C + (max (m - C) (C + 2)))) (pc' := 32) i169_31 (shl0 (by omega)) rfl <| ok_cc i169_32 rfl (cl_s o169 m24_108 na160 rfl rfl (bt rfl) (bt rfl) rfl) ln160 (pd160 (aR V) (aI (C + (max (m - C) (C + 2))))) <| ok_iloadn (pc' := 1) i160_0 rfl rfl <| ok_aloadn (pc' := 2) i160_1 rfl rfl <| ok_arrlen (v := C) (pc' := 3) i160_2 (hS.v) (by decide) (hS.l) rfl <| ?_
    refine ok_cne (pc1 := 14) (pc2 := 6) i160_3 (by omega) rfl rfl (fun h7 => ?_) (fun h9 => by exfalso; omega)
    refine ok_iloadn (pc' := 15) i160_14 rfl rfl <| ?_
    refine ok_nba (pc' := 17) i160_15 (by omega) rfl (fun xb8 gb8 Mb8 hx8 hn8 hk8 hz8 eb8 => ?_)
    have hSb8 := SB.fr hS eb8 (fun e => e) (fun e => e)
    refine ok_astoren (pc' := 18) (ls' := [aR V, aI (C + (max (m - C) (C + 2))), aR xb8]) i160_17 (bt rfl) rfl rfl <| ok_aloadn (pc' := 19) i160_18 rfl rfl <| ok_iconst (pc' := 20) i160_19 rfl <| ok_aloadn (pc' := 21) i160_20 rfl rfl <| ok_iconst (pc' := 22) i160_21 rfl <| ok_aloadn (pc' := 23) i160_22 rfl rfl <| ok_arrlen (v := C) (pc' := 24) i160_23 (hSb8.v) (by decide) (hSb8.l) rfl <| ok_iloadn (pc' := 25) i160_24 rfl rfl <| ?_
    refine ok_min (v := (min C (C + (max (m - C) (C + 2))))) (pc' := 28) i160_25 o160 m25_304 (by omega) (bt rfl) rfl rfl <| ?_
    have z9 : (min C (C + (max (m - C) (C + 2)))) ≤ C ∧ (min C (C + (max (m - C) (C + 2)))) ≤ (C + (max (m - C) (C + 2))) := by omega
    have z10 : 0 ≤ (min C (C + (max (m - C) (C + 2)))) := by omega
    rw [show (min C (C + (max (m - C) (C + 2)))) = C by omega]
    have hl1 : (gL gb8 V : Int) = C := hSb8.l
    have hl2 := hk8.2
    refine ok_bcopy (pc' := 31) i160_28 o160 m25_150 hk8.1 (Or.inl hSb8.v) rfl rfl (by omega) (bt rfl) rfl <| ok_aloadn (pc' := 32) i160_31 rfl rfl <| ok_aret i160_32 (by rw [rt160]) <| kt_v (pc' := 35) rfl <| ok_putfr (pc' := 38) i169_35 o169 pr169_15 (hSb8.k) rfl <| ok_vret i169_38 rt169 <| ?_
    have hG9 := SB.grow (m := m) hS hx8 hn8 hk8 eb8 rfl (by omega)
    exact ⟨rfl, _, _, hG9⟩
/-- append of a letter -/
theorem sbC {g : AG} {M : AM} {B V : Nat} {C : Int} {t : Tx} {c : Int} (hS : SB g M B V C t) (hC : C ≤ 4000) (ht : t.1 ≤ 1990) (hc : 0 ≤ c ∧ c ≤ 127) : Ok 5 185 0 [aR B, aI c] [] g M (fun o g1 M1 => o = .inl (some (aR B)) ∧ ∃ (V1 : Nat) (C1 : Int), SB g1 M1 B V1 C1 (say t c) ∧ Gr g M g1 M1 B V V1 C C1 (t.1 + 1)) := by
  have hz := hS.z
  have hA := hS.a
  refine ok_aloadn (pc' := 1) i185_0 rfl rfl <| ok_iloadn (pc' := 2) i185_1 rfl rfl <| ok_cc i185_2 rfl (cl_w o185 m18_50 na175 rfl rfl (bt rfl) (bt rfl) rfl hS.k) ln175 (pd175 (aR B) (aI c)) <| ok_aloadn (pc' := 1) i175_0 rfl rfl <| ok_aloadn (pc' := 2) i175_1 rfl rfl <| ok_getfi (v := t.1) (pc' := 5) i175_2 o175 gi24_79 (hS.k) (hS.n) rfl <| ok_iconst (pc' := 6) i175_5 rfl <| ok_iadd (v := (t.1 + 1)) (pc' := 7) i175_6 rfl rfl <| ?_
  refine ok_cc i175_7 rfl (cl_u o175 m24_100 na169 rfl rfl (bt rfl) (bt rfl) rfl hS.k) ln169 (pd169 (aR B) (aI (t.1 + 1))) <| (Ok.deep (t169 (m := (t.1 + 1)) hS (by omega) (by omega)) (by omega)).mono (fun o9 g1e M1e p1e => ?_)
  obtain ⟨rfl, V1, C1, hS1, hm1, hG1⟩ := p1e
  have hz1 := hS1.z
  have hg1 := hG1.2.2
  have hc1 : C ≤ C1 ∧ C1 ≤ 8000 := by omega
  refine kt_0 (pc' := 10) rfl <| ok_aloadn (pc' := 11) i175_10 rfl rfl <| ok_cc i175_11 rfl (cl_u o175 m24_83 na171 rfl rfl (bt rfl) (bt rfl) rfl hS1.k) ln171 (pd171 (aR B)) <| ok_gsta (pc' := 3) i171_0 o171 rfl <| ok_kz0 (pc1 := 17) (pc2 := 6) i171_3 (by decide) rfl rfl <| ok_aloadn (pc' := 7) i171_6 rfl rfl <| ok_getfi (v := 0) (pc' := 10) i171_7 o171 gi24_22 (hS1.k) (hS1.c) rfl <| ok_kz0 (pc1 := 17) (pc2 := 13) i171_10 (by decide) rfl rfl <| ?_
  refine ok_iconst (pc' := 14) i171_13 rfl <| ok_goto (pc' := 18) i171_14 rfl <| ok_iretz i171_18 rt171 (by decide) <| kt_v (pc' := 14) rfl <| ok_kz0 (pc1 := 45) (pc2 := 17) i175_14 (by decide) rfl rfl <| ok_iloadn (pc' := 18) i175_17 rfl rfl <| ok_cc i175_18 rfl (cl_s o175 m24_191 na159 rfl rfl (bt rfl) (bt rfl) rfl) ln159 (pd159 (aI c)) <| ok_iloadn (pc' := 1) i159_0 rfl rfl <| ?_
  refine ok_sipush (v := 255) (pc' := 4) i159_1 rfl rfl <| ?_
  refine ok_cgt (pc1 := 11) (pc2 := 7) i159_4 (by omega) rfl rfl (fun h9 => by exfalso; omega) (fun h1 => ?_)
  refine ok_iconst (pc' := 8) i159_7 rfl <| ok_goto (pc' := 12) i159_8 rfl <| ok_iretz i159_12 rt159 (by decide) <| kt_v (pc' := 21) rfl <| ok_kz0 (pc1 := 45) (pc2 := 24) i175_21 (by decide) rfl rfl <| ok_aloadn (pc' := 25) i175_24 rfl rfl <| ok_getfr (r := V1) (pc' := 28) i175_25 o175 gr24_15 (hS1.k) (hS1.r) rfl <| ok_aloadn (pc' := 29) i175_28 rfl rfl <| ?_
  refine ok_dup (pc' := 30) i175_29 rfl rfl <| ok_getfi (v := t.1) (pc' := 33) i175_30 o175 gi24_79 (hS1.k) (hS1.n) rfl <| ok_dupx1 (pc' := 34) i175_33 ⟨rfl, rfl⟩ rfl <| ok_iconst (pc' := 35) i175_34 rfl <| ok_iadd (v := (t.1 + 1)) (pc' := 36) i175_35 rfl rfl <| ok_putfj (kk := 3) (pc' := 39) i175_36 o175 pi175_79 (hS1.k) rfl rfl <| ok_iloadn (pc' := 40) i175_39 rfl rfl <| ok_i2b (v := c) (pc' := 41) i175_40 (bm127 (by omega)) rfl <| ?_
  have hL9 : ((gL g1e V1 : Nat) : Int) = C1 := hS1.l
  refine ok_bastore (v := c) (pc' := 42) i175_41 (Or.inl hS1.v) rfl (by omega) (bm127 (by omega)) rfl <| ok_goto (pc' := 75) i175_42 rfl <| ok_aloadn (pc' := 76) i175_75 rfl rfl <| ok_aret i175_76 (by rw [rt175]) <| kt_v (pc' := 5) rfl <| ok_pop (pc' := 6) i185_5 rfl rfl <| ok_aloadn (pc' := 7) i185_6 rfl rfl <| ok_aret i185_7 (by rw [rt185]) <| ?_
  exact ⟨rfl, _, _, hS1.say (by omega) (by omega), (hG1.upB).upV⟩
theorem t165_1 {g : AG} {M : AM} {x : Int} (hx : 0 ≤ x ∧ x ≤ 9) : Ok 0 165 0 [aI x, aU, aU, aU] [] g M (Rt (some (aI 1)) g (fun M9 => M9 = M)) := by
  refine ok_iconst (pc' := 1) i165_0 rfl <| ok_istoren (pc' := 2) (ls' := [aI x, aI 1, aU, aU]) i165_1 (bt rfl) rfl rfl <| ok_iloadn (pc' := 3) i165_2 rfl rfl <| ?_
  refine ok_zlt (pc1 := 11) (pc2 := 6) i165_3 (by omega) rfl rfl (fun h9 => by exfalso; omega) (fun h1 => ?_)
  refine ok_iconst (pc' := 7) i165_6 rfl <| ok_istoren (pc' := 8) (ls' := [aI x, aI 0, aU, aU]) i165_7 (bt rfl) rfl rfl <| ok_iloadn (pc' := 9) i165_8 rfl rfl <| ok_ineg (v := (-x)) (pc' := 10) i165_9 rfl rfl <| ok_istoren (pc' := 11) (ls' := [aI (-x), aI 0, aU, aU]) i165_10 (bt rfl) rfl rfl <| ok_bipush (v := (-10)) (pc' := 13) i165_11 rfl rfl <| ok_istoren (pc' := 14) (ls' := [aI (-x), aI 0, aI (-10), aU]) i165_13 (bt rfl) rfl rfl <| ok_iconst (pc' := 15) i165_14 rfl <| ?_
  refine ok_istoren (pc' := 16) (ls' := [aI (-x), aI 0, aI (-10), aI 1]) i165_15 (bt rfl) rfl rfl <| ok_iloadn (pc' := 17) i165_16 rfl rfl <| ok_bipush (v := 10) (pc' := 19) i165_17 rfl rfl <| ok_kc0 (pc1 := 42) (pc2 := 22) i165_19 (by decide) rfl rfl <| ok_iloadn (pc' := 23) i165_22 rfl rfl <| ok_iloadn (pc' := 24) i165_23 rfl rfl <| ?_
  refine ok_cle (pc1 := 31) (pc2 := 27) i165_24 (by omega) rfl rfl (fun h9 => by exfalso; omega) (fun h2 => ?_)
  refine ok_iloadn (pc' := 28) i165_27 rfl rfl <| ok_iloadn (pc' := 29) i165_28 rfl rfl <| ok_iadd (v := 1) (pc' := 30) i165_29 rfl rfl <| ok_ireti i165_30 rt165 <| ?_
  exact ⟨by rw [show (1 : Int) = 1 by omega], rfl, rfl⟩
theorem t165_2 {g : AG} {M : AM} {x : Int} (hx : 10 ≤ x ∧ x ≤ 99) : Ok 0 165 0 [aI x, aU, aU, aU] [] g M (Rt (some (aI 2)) g (fun M9 => M9 = M)) := by
  refine ok_iconst (pc' := 1) i165_0 rfl <| ok_istoren (pc' := 2) (ls' := [aI x, aI 1, aU, aU]) i165_1 (bt rfl) rfl rfl <| ok_iloadn (pc' := 3) i165_2 rfl rfl <| ?_
  refine ok_zlt (pc1 := 11) (pc2 := 6) i165_3 (by omega) rfl rfl (fun h9 => by exfalso; omega) (fun h1 => ?_)
  refine ok_iconst (pc' := 7) i165_6 rfl <| ok_istoren (pc' := 8) (ls' := [aI x, aI 0, aU, aU]) i165_7 (bt rfl) rfl rfl <| ok_iloadn (pc' := 9) i165_8 rfl rfl <| ok_ineg (v := (-x)) (pc' := 10) i165_9 rfl rfl <| ok_istoren (pc' := 11) (ls' := [aI (-x), aI 0, aU, aU]) i165_10 (bt rfl) rfl rfl <| ok_bipush (v := (-10)) (pc' := 13) i165_11 rfl rfl <| ok_istoren (pc' := 14) (ls' := [aI (-x), aI 0, aI (-10), aU]) i165_13 (bt rfl) rfl rfl <| ok_iconst (pc' := 15) i165_14 rfl <| ?_
  refine ok_istoren (pc' := 16) (ls' := [aI (-x), aI 0, aI (-10), aI 1]) i165_15 (bt rfl) rfl rfl <| ok_iloadn (pc' := 17) i165_16 rfl rfl <| ok_bipush (v := 10) (pc' := 19) i165_17 rfl rfl <| ok_kc0 (pc1 := 42) (pc2 := 22) i165_19 (by decide) rfl rfl <| ok_iloadn (pc' := 23) i165_22 rfl rfl <| ok_iloadn (pc' := 24) i165_23 rfl rfl <| ?_
  refine ok_cle (pc1 := 31) (pc2 := 27) i165_24 (by omega) rfl rfl (fun h2 => ?_) (fun h9 => by exfalso; omega)
  refine ok_bipush (v := 10) (pc' := 33) i165_31 rfl rfl <| ok_iloadn (pc' := 34) i165_33 rfl rfl <| ok_imul (v := (-100)) (pc' := 35) i165_34 rfl rfl <| ok_istoren (pc' := 36) (ls' := [aI (-x), aI 0, aI (-100), aI 1]) i165_35 (bt rfl) rfl rfl <| ok_iinc (pc' := 39) (v := 2) (ls' := [aI (-x), aI 0, aI (-100), aI 2]) i165_36 rfl rfl rfl rfl <| ok_goto (pc' := 16) i165_39 rfl <| ok_iloadn (pc' := 17) i165_16 rfl rfl <| ok_bipush (v := 10) (pc' := 19) i165_17 rfl rfl <| ?_
  refine ok_kc0 (pc1 := 42) (pc2 := 22) i165_19 (by decide) rfl rfl <| ok_iloadn (pc' := 23) i165_22 rfl rfl <| ok_iloadn (pc' := 24) i165_23 rfl rfl <| ?_
  refine ok_cle (pc1 := 31) (pc2 := 27) i165_24 (by omega) rfl rfl (fun h9 => by exfalso; omega) (fun h3 => ?_)
  refine ok_iloadn (pc' := 28) i165_27 rfl rfl <| ok_iloadn (pc' := 29) i165_28 rfl rfl <| ok_iadd (v := 2) (pc' := 30) i165_29 rfl rfl <| ok_ireti i165_30 rt165 <| ?_
  exact ⟨by rw [show (2 : Int) = 2 by omega], rfl, rfl⟩
theorem t165_3 {g : AG} {M : AM} {x : Int} (hx : 100 ≤ x ∧ x ≤ 999) : Ok 0 165 0 [aI x, aU, aU, aU] [] g M (Rt (some (aI 3)) g (fun M9 => M9 = M)) := by
  refine ok_iconst (pc' := 1) i165_0 rfl <| ok_istoren (pc' := 2) (ls' := [aI x, aI 1, aU, aU]) i165_1 (bt rfl) rfl rfl <| ok_iloadn (pc' := 3) i165_2 rfl rfl <| ?_
  refine ok_zlt (pc1 := 11) (pc2 := 6) i165_3 (by omega) rfl rfl (fun h9 => by exfalso; omega) (fun h1 => ?_)
  refine ok_iconst (pc' := 7) i165_6 rfl <| ok_istoren (pc' := 8) (ls' := [aI x, aI 0, aU, aU]) i165_7 (bt rfl) rfl rfl <| ok_iloadn (pc' := 9) i165_8 rfl rfl <| ok_ineg (v := (-x)) (pc' := 10) i165_9 rfl rfl <| ok_istoren (pc' := 11) (ls' := [aI (-x), aI 0, aU, aU]) i165_10 (bt rfl) rfl rfl <| ok_bipush (v := (-10)) (pc' := 13) i165_11 rfl rfl <| ok_istoren (pc' := 14) (ls' := [aI (-x), aI 0, aI (-10), aU]) i165_13 (bt rfl) rfl rfl <| ok_iconst (pc' := 15) i165_14 rfl <| ?_
  refine ok_istoren (pc' := 16) (ls' := [aI (-x), aI 0, aI (-10), aI 1]) i165_15 (bt rfl) rfl rfl <| ok_iloadn (pc' := 17) i165_16 rfl rfl <| ok_bipush (v := 10) (pc' := 19) i165_17 rfl rfl <| ok_kc0 (pc1 := 42) (pc2 := 22) i165_19 (by decide) rfl rfl <| ok_iloadn (pc' := 23) i165_22 rfl rfl <| ok_iloadn (pc' := 24) i165_23 rfl rfl <| ?_
  refine ok_cle (pc1 := 31) (pc2 := 27) i165_24 (by omega) rfl rfl (fun h2 => ?_) (fun h9 => by exfalso; omega)
  refine ok_bipush (v := 10) (pc' := 33) i165_31 rfl rfl <| ok_iloadn (pc' := 34) i165_33 rfl rfl <| ok_imul (v := (-100)) (pc' := 35) i165_34 rfl rfl <| ok_istoren (pc' := 36) (ls' := [aI (-x), aI 0, aI (-100), aI 1]) i165_35 (bt rfl) rfl rfl <| ok_iinc (pc' := 39) (v := 2) (ls' := [aI (-x), aI 0, aI (-100), aI 2]) i165_36 rfl rfl rfl rfl <| ok_goto (pc' := 16) i165_39 rfl <| ok_iloadn (pc' := 17) i165_16 rfl rfl <| ok_bipush (v := 10) (pc' := 19) i165_17 rfl rfl <| ?_
  refine ok_kc0 (pc1 := 42) (pc2 := 22) i165_19 (by decide) rfl rfl <| ok_iloadn (pc' := 23) i165_22 rfl rfl <| ok_iloadn (pc' := 24) i165_23 rfl rfl <| ?_
  refine ok_cle (pc1 := 31) (pc2 := 27) i165_24 (by omega) rfl rfl (fun h3 => ?_) (fun h9 => by exfalso; omega)
  refine ok_bipush (v := 10) (pc' := 33) i165_31 rfl rfl <| ok_iloadn (pc' := 34) i165_33 rfl rfl <| ok_imul (v := (-1000)) (pc' := 35) i165_34 rfl rfl <| ok_istoren (pc' := 36) (ls' := [aI (-x), aI 0, aI (-1000), aI 2]) i165_35 (bt rfl) rfl rfl <| ok_iinc (pc' := 39) (v := 3) (ls' := [aI (-x), aI 0, aI (-1000), aI 3]) i165_36 rfl rfl rfl rfl <| ok_goto (pc' := 16) i165_39 rfl <| ok_iloadn (pc' := 17) i165_16 rfl rfl <| ok_bipush (v := 10) (pc' := 19) i165_17 rfl rfl <| ?_
  refine ok_kc0 (pc1 := 42) (pc2 := 22) i165_19 (by decide) rfl rfl <| ok_iloadn (pc' := 23) i165_22 rfl rfl <| ok_iloadn (pc' := 24) i165_23 rfl rfl <| ?_
  refine ok_cle (pc1 := 31) (pc2 := 27) i165_24 (by omega) rfl rfl (fun h9 => by exfalso; omega) (fun h4 => ?_)
  refine ok_iloadn (pc' := 28) i165_27 rfl rfl <| ok_iloadn (pc' := 29) i165_28 rfl rfl <| ok_iadd (v := 3) (pc' := 30) i165_29 rfl rfl <| ok_ireti i165_30 rt165 <| ?_
  exact ⟨by rw [show (3 : Int) = 3 by omega], rfl, rfl⟩
theorem td100 {x y z : Int} (h : x = 100 * y + z) (hy : 1 ≤ y ∧ y ≤ 9) (hz : 0 ≤ z ∧ z ≤ 99) : Int.tdiv (-x) 100 = -y := by
  rw [Int.neg_tdiv, Int.tdiv_eq_ediv_of_nonneg (by omega)]
  omega
theorem t166_1 {g : AG} {M : AM} {B V : Nat} {C : Int} {t : Tx} {x p : Int} (hS : SB g M B V C t) (hOne : gK g 50 = 27 ∧ gL g 50 = 100 ∧ ∀ i : Int, M 50 i = 48 + i % 10) (hTen : gK g 51 = 27 ∧ gL g 51 = 100 ∧ ∀ i : Int, M 51 i = 48 + i / 10) (hx : 0 ≤ x ∧ x ≤ 9) (hp : 0 ≤ p ∧ p + 1 ≤ C) (hC : C ≤ 8000) : Ok 0 166 0 [aI x, aI (p + 1), aR V, aU, aU, aU, aU] [] g M (Rt (some (aI p)) g (fun M9 => M9 = up2 (M) V p (48 + x % 10))) := by
  have hA := hS.a
  refine ok_iloadn (pc' := 1) i166_0 rfl rfl <| ok_istore (pc' := 3) (ls' := [aI x, aI (p + 1), aR V, aU, aU, aI (p + 1), aU]) i166_1 (bt rfl) rfl rfl <| ok_iloadn (pc' := 4) i166_3 rfl rfl <| ?_
  refine ok_zge (pc1 := 11) (pc2 := 7) i166_4 (by omega) rfl rfl (fun h1 => ?_) (fun h9 => by exfalso; omega)
  refine ok_iconst (pc' := 12) i166_11 rfl <| ok_istore (pc' := 14) (ls' := [aI x, aI (p + 1), aR V, aU, aU, aI (p + 1), aI 0]) i166_12 (bt rfl) rfl rfl <| ok_iload (pc' := 16) i166_14 rfl rfl <| ok_kz0 (pc1 := 22) (pc2 := 19) i166_16 (by decide) rfl rfl <| ok_iloadn (pc' := 20) i166_19 rfl rfl <| ok_ineg (v := (-x)) (pc' := 21) i166_20 rfl rfl <| ok_istoren (pc' := 22) (ls' := [aI (-x), aI (p + 1), aR V, aU, aU, aI (p + 1), aI 0]) i166_21 (bt rfl) rfl rfl <| ok_iloadn (pc' := 23) i166_22 rfl rfl <| ?_
  refine ok_bipush (v := (-100)) (pc' := 25) i166_23 rfl rfl <| ?_
  refine ok_cgt (pc1 := 72) (pc2 := 28) i166_25 (by omega) rfl rfl (fun h2 => ?_) (fun h9 => by exfalso; omega)
  refine ok_aloadn (pc' := 73) i166_72 rfl rfl <| ok_iinc (pc' := 76) (v := p) (ls' := [aI (-x), aI (p + 1), aR V, aU, aU, aI p, aI 0]) i166_73 rfl (by omega) rfl rfl <| ok_iload (pc' := 78) i166_76 rfl rfl <| ok_gst50 (pc' := 81) i166_78 o166 rfl <| ok_iloadn (pc' := 82) i166_81 rfl rfl <| ok_ineg (v := x) (pc' := 83) i166_82 (by omega) rfl <| ok_baload (v := (48 + x % 10)) (pc' := 84) i166_83 (hOne.1) (by decide) (hOne.2.1) (by omega) (hOne.2.2 x) rfl <| ?_
  have hL9 : ((gL g V : Nat) : Int) = C := hS.l
  refine ok_bastore (v := (48 + x % 10)) (pc' := 85) i166_84 (Or.inl hS.v) rfl (by omega) (bm127 (by omega)) rfl <| ok_iloadn (pc' := 86) i166_85 rfl rfl <| ok_bipush (v := (-9)) (pc' := 88) i166_86 rfl rfl <| ?_
  refine ok_cge (pc1 := 104) (pc2 := 91) i166_88 (by omega) rfl rfl (fun h3 => ?_) (fun h9 => by exfalso; omega)
  refine ok_iload (pc' := 106) i166_104 rfl rfl <| ok_kz1 (pc1 := 118) (pc2 := 109) i166_106 (by decide) rfl rfl <| ok_iload (pc' := 120) i166_118 rfl rfl <| ok_ireti i166_120 rt166 <| ?_
  exact ⟨rfl, rfl, rfl⟩
theorem t166_2 {g : AG} {M : AM} {B V : Nat} {C : Int} {t : Tx} {x p : Int} (hS : SB g M B V C t) (hOne : gK g 50 = 27 ∧ gL g 50 = 100 ∧ ∀ i : Int, M 50 i = 48 + i % 10) (hTen : gK g 51 = 27 ∧ gL g 51 = 100 ∧ ∀ i : Int, M 51 i = 48 + i / 10) (hx : 10 ≤ x ∧ x ≤ 99) (hp : 0 ≤ p ∧ p + 2 ≤ C) (hC : C ≤ 8000) : Ok 0 166 0 [aI x, aI (p + 2), aR V, aU, aU, aU, aU] [] g M (Rt (some (aI p)) g (fun M9 => M9 = up2 (up2 (M) V (p + 1) (48 + x % 10)) V p (48 + x / 10))) := by
  have hA := hS.a
  refine ok_iloadn (pc' := 1) i166_0 rfl rfl <| ok_istore (pc' := 3) (ls' := [aI x, aI (p + 2), aR V, aU, aU, aI (p + 2), aU]) i166_1 (bt rfl) rfl rfl <| ok_iloadn (pc' := 4) i166_3 rfl rfl <| ?_
  refine ok_zge (pc1 := 11) (pc2 := 7) i166_4 (by omega) rfl rfl (fun h1 => ?_) (fun h9 => by exfalso; omega)
  refine ok_iconst (pc' := 12) i166_11 rfl <| ok_istore (pc' := 14) (ls' := [aI x, aI (p + 2), aR V, aU, aU, aI (p + 2), aI 0]) i166_12 (bt rfl) rfl rfl <| ok_iload (pc' := 16) i166_14 rfl rfl <| ok_kz0 (pc1 := 22) (pc2 := 19) i166_16 (by decide) rfl rfl <| ok_iloadn (pc' := 20) i166_19 rfl rfl <| ok_ineg (v := (-x)) (pc' := 21) i166_20 rfl rfl <| ok_istoren (pc' := 22) (ls' := [aI (-x), aI (p + 2), aR V, aU, aU, aI (p + 2), aI 0]) i166_21 (bt rfl) rfl rfl <| ok_iloadn (pc' := 23) i166_22 rfl rfl <| ?_
  refine ok_bipush (v := (-100)) (pc' := 25) i166_23 rfl rfl <| ?_
  refine ok_cgt (pc1 := 72) (pc2 := 28) i166_25 (by omega) rfl rfl (fun h2 => ?_) (fun h9 => by exfalso; omega)
  refine ok_aloadn (pc' := 73) i166_72 rfl rfl <| ok_iinc (pc' := 76) (v := (p + 1)) (ls' := [aI (-x), aI (p + 2), aR V, aU, aU, aI (p + 1), aI 0]) i166_73 rfl (by omega) rfl rfl <| ok_iload (pc' := 78) i166_76 rfl rfl <| ok_gst50 (pc' := 81) i166_78 o166 rfl <| ok_iloadn (pc' := 82) i166_81 rfl rfl <| ok_ineg (v := x) (pc' := 83) i166_82 (by omega) rfl <| ok_baload (v := (48 + x % 10)) (pc' := 84) i166_83 (hOne.1) (by decide) (hOne.2.1) (by omega) (hOne.2.2 x) rfl <| ?_
  have hL9 : ((gL g V : Nat) : Int) = C := hS.l
  refine ok_bastore (v := (48 + x % 10)) (pc' := 85) i166_84 (Or.inl hS.v) rfl (by omega) (bm127 (by omega)) rfl <| ok_iloadn (pc' := 86) i166_85 rfl rfl <| ok_bipush (v := (-9)) (pc' := 88) i166_86 rfl rfl <| ?_
  refine ok_cge (pc1 := 104) (pc2 := 91) i166_88 (by omega) rfl rfl (fun h9 => by exfalso; omega) (fun h3 => ?_)
  refine ok_aloadn (pc' := 92) i166_91 rfl rfl <| ok_iinc (pc' := 95) (v := p) (ls' := [aI (-x), aI (p + 2), aR V, aU, aU, aI p, aI 0]) i166_92 rfl (by omega) rfl rfl <| ok_iload (pc' := 97) i166_95 rfl rfl <| ok_gst51 (pc' := 100) i166_97 o166 rfl <| ok_iloadn (pc' := 101) i166_100 rfl rfl <| ok_ineg (v := x) (pc' := 102) i166_101 (by omega) rfl <| ok_baload (v := (48 + x / 10)) (pc' := 103) i166_102 (hTen.1) (by decide) (hTen.2.1) (by omega) (rd_na (by omega) (hTen.2.2 x)) rfl <| ?_
  have hL9 : ((gL g V : Nat) : Int) = C := hS.l
  refine ok_bastore (v := (48 + x / 10)) (pc' := 104) i166_103 (Or.inl hS.v) rfl (by omega) (bm127 (by omega)) rfl <| ok_iload (pc' := 106) i166_104 rfl rfl <| ok_kz1 (pc1 := 118) (pc2 := 109) i166_106 (by decide) rfl rfl <| ok_iload (pc' := 120) i166_118 rfl rfl <| ok_ireti i166_120 rt166 <| ?_
  exact ⟨rfl, rfl, rfl⟩
theorem t166_3 {g : AG} {M : AM} {B V : Nat} {C : Int} {t : Tx} {x p y z : Int} (hS : SB g M B V C t) (hOne : gK g 50 = 27 ∧ gL g 50 = 100 ∧ ∀ i : Int, M 50 i = 48 + i % 10) (hTen : gK g 51 = 27 ∧ gL g 51 = 100 ∧ ∀ i : Int, M 51 i = 48 + i / 10) (hx : x = 100 * y + z) (hy : 1 ≤ y ∧ y ≤ 9) (hz : 0 ≤ z ∧ z ≤ 99) (hp : 0 ≤ p ∧ p + 3 ≤ C) (hC : C ≤ 8000) : Ok 0 166 0 [aI x, aI (p + 3), aR V, aU, aU, aU, aU] [] g M (Rt (some (aI p)) g (fun M9 => M9 = up2 (up2 (up2 (M) V (p + 2) (48 + z % 10)) V (p + 1) (48 + z / 10)) V p (48 + y % 10))) := by
  have hA := hS.a
  refine ok_iloadn (pc' := 1) i166_0 rfl rfl <| ok_istore (pc' := 3) (ls' := [aI x, aI (p + 3), aR V, aU, aU, aI (p + 3), aU]) i166_1 (bt rfl) rfl rfl <| ok_iloadn (pc' := 4) i166_3 rfl rfl <| ?_
  refine ok_zge (pc1 := 11) (pc2 := 7) i166_4 (by omega) rfl rfl (fun h1 => ?_) (fun h9 => by exfalso; omega)
  refine ok_iconst (pc' := 12) i166_11 rfl <| ok_istore (pc' := 14) (ls' := [aI x, aI (p + 3), aR V, aU, aU, aI (p + 3), aI 0]) i166_12 (bt rfl) rfl rfl <| ok_iload (pc' := 16) i166_14 rfl rfl <| ok_kz0 (pc1 := 22) (pc2 := 19) i166_16 (by decide) rfl rfl <| ok_iloadn (pc' := 20) i166_19 rfl rfl <| ok_ineg (v := (-x)) (pc' := 21) i166_20 rfl rfl <| ok_istoren (pc' := 22) (ls' := [aI (-x), aI (p + 3), aR V, aU, aU, aI (p + 3), aI 0]) i166_21 (bt rfl) rfl rfl <| ok_iloadn (pc' := 23) i166_22 rfl rfl <| ?_
  refine ok_bipush (v := (-100)) (pc' := 25) i166_23 rfl rfl <| ?_
  refine ok_cgt (pc1 := 72) (pc2 := 28) i166_25 (by omega) rfl rfl (fun h9 => by exfalso; omega) (fun h2 => ?_)
  refine ok_iloadn (pc' := 29) i166_28 rfl rfl <| ok_bipush (v := 100) (pc' := 31) i166_29 rfl rfl <| ok_idivp (v := (Int.tdiv (-x) 100)) (pc' := 32) i166_31 (by omega) rfl rfl <| ?_
  rw [td100 hx hy hz]
  refine ok_istoren (pc' := 33) (ls' := [aI (-x), aI (p + 3), aR V, aI (-y), aU, aI (p + 3), aI 0]) i166_32 (bt rfl) rfl rfl <| ok_iloadn (pc' := 34) i166_33 rfl rfl <| ok_bipush (v := 100) (pc' := 36) i166_34 rfl rfl <| ok_imul (v := (-100 * y)) (pc' := 37) i166_36 (by omega) rfl <| ok_iloadn (pc' := 38) i166_37 rfl rfl <| ok_isub (v := z) (pc' := 39) i166_38 (by omega) rfl <| ok_istore (pc' := 41) (ls' := [aI (-x), aI (p + 3), aR V, aI (-y), aI z, aI (p + 3), aI 0]) i166_39 (bt rfl) rfl rfl <| ok_iloadn (pc' := 42) i166_41 rfl rfl <| ?_
  refine ok_istoren (pc' := 43) (ls' := [aI (-y), aI (p + 3), aR V, aI (-y), aI z, aI (p + 3), aI 0]) i166_42 (bt rfl) rfl rfl <| ok_aloadn (pc' := 44) i166_43 rfl rfl <| ok_iinc (pc' := 47) (v := (p + 2)) (ls' := [aI (-y), aI (p + 3), aR V, aI (-y), aI z, aI (p + 2), aI 0]) i166_44 rfl (by omega) rfl rfl <| ok_iload (pc' := 49) i166_47 rfl rfl <| ok_gst50 (pc' := 52) i166_49 o166 rfl <| ok_iload (pc' := 54) i166_52 rfl rfl <| ok_baload (v := (48 + z % 10)) (pc' := 55) i166_54 (hOne.1) (by decide) (hOne.2.1) (by omega) (hOne.2.2 z) rfl <| ?_
  have hL9 : ((gL g V : Nat) : Int) = C := hS.l
  refine ok_bastore (v := (48 + z % 10)) (pc' := 56) i166_55 (Or.inl hS.v) rfl (by omega) (bm127 (by omega)) rfl <| ok_aloadn (pc' := 57) i166_56 rfl rfl <| ok_iinc (pc' := 60) (v := (p + 1)) (ls' := [aI (-y), aI (p + 3), aR V, aI (-y), aI z, aI (p + 1), aI 0]) i166_57 rfl (by omega) rfl rfl <| ok_iload (pc' := 62) i166_60 rfl rfl <| ok_gst51 (pc' := 65) i166_62 o166 rfl <| ok_iload (pc' := 67) i166_65 rfl rfl <| ok_baload (v := (48 + z / 10)) (pc' := 68) i166_67 (hTen.1) (by decide) (hTen.2.1) (by omega) (rd_na (by omega) (hTen.2.2 z)) rfl <| ?_
  have hL9 : ((gL g V : Nat) : Int) = C := hS.l
  refine ok_bastore (v := (48 + z / 10)) (pc' := 69) i166_68 (Or.inl hS.v) rfl (by omega) (bm127 (by omega)) rfl <| ok_goto (pc' := 22) i166_69 rfl <| ok_iloadn (pc' := 23) i166_22 rfl rfl <| ok_bipush (v := (-100)) (pc' := 25) i166_23 rfl rfl <| ?_
  refine ok_cgt (pc1 := 72) (pc2 := 28) i166_25 (by omega) rfl rfl (fun h3 => ?_) (fun h9 => by exfalso; omega)
  refine ok_aloadn (pc' := 73) i166_72 rfl rfl <| ok_iinc (pc' := 76) (v := p) (ls' := [aI (-y), aI (p + 3), aR V, aI (-y), aI z, aI p, aI 0]) i166_73 rfl (by omega) rfl rfl <| ok_iload (pc' := 78) i166_76 rfl rfl <| ok_gst50 (pc' := 81) i166_78 o166 rfl <| ok_iloadn (pc' := 82) i166_81 rfl rfl <| ok_ineg (v := y) (pc' := 83) i166_82 (by omega) rfl <| ok_baload (v := (48 + y % 10)) (pc' := 84) i166_83 (hOne.1) (by decide) (hOne.2.1) (by omega) (rd_na (by omega) (rd_na (by omega) (hOne.2.2 y))) rfl <| ?_
  have hL9 : ((gL g V : Nat) : Int) = C := hS.l
  refine ok_bastore (v := (48 + y % 10)) (pc' := 85) i166_84 (Or.inl hS.v) rfl (by omega) (bm127 (by omega)) rfl <| ok_iloadn (pc' := 86) i166_85 rfl rfl <| ok_bipush (v := (-9)) (pc' := 88) i166_86 rfl rfl <| ?_
  refine ok_cge (pc1 := 104) (pc2 := 91) i166_88 (by omega) rfl rfl (fun h4 => ?_) (fun h9 => by exfalso; omega)
  refine ok_iload (pc' := 106) i166_104 rfl rfl <| ok_kz1 (pc1 := 118) (pc2 := 109) i166_106 (by decide) rfl rfl <| ok_iload (pc' := 120) i166_118 rfl rfl <| ok_ireti i166_120 rt166 <| ?_
  exact ⟨rfl, rfl, rfl⟩
