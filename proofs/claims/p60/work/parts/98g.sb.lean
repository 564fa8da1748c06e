/-! A STRING THAT FITS (by program, wip/p60/gen) -/
theorem o181 : am_oc 181 = 18 := by decide +kernel
theorem m18_7 : am_mlk 18 7 2 167 = true := by decide +kernel
theorem na167 : am_na 167 = 1 := by decide +kernel
theorem nl167 : am_nL 167 = 5 := by decide +kernel
theorem pd167 : ∀ a0 a1 : AV, am_pad 167 [a0, a1] = [a0, a1, aU, aU, aU] := by intros; unfold am_pad; rw [nl167]; rfl
theorem ln167 : 2 ≤ am_nL 167 := by rw [nl167]; decide
theorem o167 : am_oc 167 = 24 := by decide +kernel
theorem ct24_38 : (am_ct 24 38).map (fun q => q.2.1) = some 2147483631 := by decide +kernel
theorem pb167_22 : am_pfb 167 24 22 18 1 = true := by decide +kernel
theorem pr167_15 : am_pfr 167 24 15 18 0 = true := by decide +kernel
theorem m24_43 : am_mlk 24 43 8 182 = true := by decide +kernel
theorem na182 : am_na 182 = 1 := by decide +kernel
theorem nl182 : am_nL 182 = 2 := by decide +kernel
theorem pd182 : ∀ a0 a1 : AV, am_pad 182 [a0, a1] = [a0, a1] := by intros; unfold am_pad; rw [nl182]; rfl
theorem ln182 : 2 ≤ am_nL 182 := by rw [nl182]; decide
theorem o182 : am_oc 182 = 18 := by decide +kernel
theorem m18_23 : am_mlk 18 23 0 183 = true := by decide +kernel
theorem rt182 : am_rt 182 = some (.object "java/lang/AbstractStringBuilder") := by decide +kernel
theorem rt167 : am_rt 167 = none := by decide +kernel
theorem rt181 : am_rt 181 = none := by decide +kernel
theorem t169n {g : AG} {M : AM} {B V : Nat} {C : Int} {t : Tx} {m : Int} (hS : SB g M B V C t) (hC : C ≤ 4000) (hm : 0 ≤ m ∧ m ≤ C) : Ok 3 169 0 [aR B, aI m, aU] [] g M (Rt none g (fun M9 => M9 = M)) := by
  have hz := hS.z
  have hA := hS.a
  refine ok_aloadn (pc' := 1) i169_0 rfl rfl <| ok_getfr (r := V) (pc' := 4) i169_1 o169 gr24_15 (hS.k) (hS.r) rfl <| ok_arrlen (v := C) (pc' := 5) i169_4 (hS.v) (by decide) (hS.l) rfl <| ok_aloadn (pc' := 6) i169_5 rfl rfl <| ok_getfi (v := 0) (pc' := 9) i169_6 o169 gi24_22 (hS.k) (hS.c) rfl <| ok_ishr (v := C) (pc' := 10) i169_9 (shr0 (by omega)) rfl <| ok_istoren (pc' := 11) (ls' := [aR B, aI m, aI C]) i169_10 (bt rfl) rfl rfl <| ok_iloadn (pc' := 12) i169_11 rfl rfl <| ?_
  refine ok_iloadn (pc' := 13) i169_12 rfl rfl <| ok_isub (v := (m - C)) (pc' := 14) i169_13 rfl rfl <| ?_
  refine ok_zle (pc1 := 38) (pc2 := 17) i169_14 (by omega) rfl rfl (fun h1 => ?_) (fun h9 => by exfalso; omega)
  refine ok_vret i169_38 rt169 <| ?_
  exact ⟨rfl, rfl, rfl⟩
/-- append of a string that fits -/
theorem sbS0 {g : AG} {M : AM} {B V : Nat} {C : Int} {t : Tx} {a n : Nat} {m : Int} {tx : Int → Int} (hS : SB g M B V C t) (hC : C ≤ 4000) (hStr : ShStr g a n) (hnm : (n : Int) = m) (ha0 : 10 ≤ a ∧ a < 42) (hm : 0 ≤ m ∧ m ≤ 20) (hm2 : t.1 + m ≤ C) (hT : ∀ i : Int, 0 ≤ i → i < m → M (a + 1) i = tx i ∧ 0 ≤ tx i ∧ tx i ≤ 127) : Ok 7 183 0 [aR B, aR a] [] g M (fun o g1 M1 => o = .inl (some (aR B)) ∧ g1 = g ∧ SB g M1 B V C (sayW t tx n) ∧ Fr (FB B V) 0 0 g M g M1) := by
  have hz := hS.z
  have hA := hS.a
  refine ok_aloadn (pc' := 1) i183_0 rfl rfl <| ok_aloadn (pc' := 2) i183_1 rfl rfl <| ok_cc i183_2 rfl (cl_w o183 m18_29 na168 rfl rfl (bt rfl) (bt rfl) rfl hS.k) ln168 (pd168 (aR B) (aR a)) <| ok_aloadn (pc' := 1) i168_0 rfl rfl <| ok_ifnn0 (pc1 := 9) i168_1 (Or.inr ⟨by omega, by omega⟩) rfl <| ok_aloadn (pc' := 10) i168_9 rfl rfl <| ok_cc i168_10 rfl (cl_v o168 m24_32 na1 rfl rfl (bt rfl) (bt rfl) rfl (by rw [hStr.1, o1])) ln1 (pd1 (aR a)) <| ok_aloadn (pc' := 1) i1_0 rfl rfl <| ?_
  refine ok_getfs (r := a + 1) (pc' := 4) i1_1 o1 hStr.1 hStr.2.1 rfl <| ok_arrlen (v := m) (pc' := 5) i1_4 (hStr.2.2.1) (by decide) ((show ((gL g (a + 1) : Nat) : Int) = m by rw [hStr.2.2.2]; exact hnm)) rfl <| ok_aloadn (pc' := 6) i1_5 rfl rfl <| ok_cc i1_6 rfl (cl_v o1 m14_335 na4 rfl rfl (bt rfl) (bt rfl) rfl (by rw [hStr.1, o4])) ln4 (pd4 (aR a)) <| ok_gst1 (pc' := 3) i4_0 o4 rfl <| ok_kz0 (pc1 := 13) (pc2 := 6) i4_3 (by decide) rfl rfl <| ok_aloadn (pc' := 7) i4_6 rfl rfl <| ok_getfc (pc' := 10) i4_7 o4 hStr.1 rfl <| ?_
  refine ok_goto (pc' := 14) i4_10 rfl <| ok_iretb i4_14 rt4 (by decide) <| kt_v (pc' := 9) rfl <| ok_ishr (v := m) (pc' := 10) i1_9 (shr0 (by omega)) rfl <| ok_ireti i1_10 rt1 <| kt_v (pc' := 13) rfl <| ok_istoren (pc' := 14) (ls' := [aR B, aR a, aI m]) i168_13 (bt rfl) rfl rfl <| ok_aloadn (pc' := 15) i168_14 rfl rfl <| ?_
  refine ok_aloadn (pc' := 16) i168_15 rfl rfl <| ok_getfi (v := t.1) (pc' := 19) i168_16 o168 gi24_79 (hS.k) (hS.n) rfl <| ok_iloadn (pc' := 20) i168_19 rfl rfl <| ok_iadd (v := (t.1 + m)) (pc' := 21) i168_20 rfl rfl <| ?_
  refine ok_cc i168_21 rfl (cl_u o168 m24_100 na169 rfl rfl (bt rfl) (bt rfl) rfl hS.k) ln169 (pd169 (aR B) (aI (t.1 + m))) <| (Ok.deep (t169n (m := (t.1 + m)) hS hC ⟨by omega, by omega⟩) (by omega)).mono (fun o9 g13e M13e p13e => ?_)
  obtain ⟨rfl, eg13, em13⟩ := p13e
  rw [eg13, em13]
  refine kt_0 (pc' := 24) rfl <| ok_aloadn (pc' := 25) i168_24 rfl rfl <| ok_aloadn (pc' := 26) i168_25 rfl rfl <| ok_getfi (v := t.1) (pc' := 29) i168_26 o168 gi24_79 (hS.k) (hS.n) rfl <| ok_aloadn (pc' := 30) i168_29 rfl rfl <| ok_cc i168_30 rfl (cl_u o168 m24_208 na172 rfl rfl (bt rfl) (bt rfl) rfl hS.k) ln172 (pd172 (aR B) (aI t.1) (aR a)) <| ok_aloadn (pc' := 1) i172_0 rfl rfl <| ok_aloadn (pc' := 2) i172_1 rfl rfl <| ?_
  refine ok_cc i172_2 rfl (cl_u o172 m24_397 na173 rfl rfl (bt rfl) (bt rfl) rfl hS.k) ln173 (pd173 (aR B) (aR a)) <| ok_gsta (pc' := 3) i173_0 o173 rfl <| ok_kz0 (pc1 := 21) (pc2 := 6) i173_3 (by decide) rfl rfl <| ok_aloadn (pc' := 7) i173_6 rfl rfl <| ok_getfi (v := 0) (pc' := 10) i173_7 o173 gi24_22 (hS.k) (hS.c) rfl <| ok_aloadn (pc' := 11) i173_10 rfl rfl <| ok_cc i173_11 rfl (cl_v o173 m24_40 na4 rfl rfl (bt rfl) (bt rfl) rfl (by rw [hStr.1, o4])) ln4 (pd4 (aR a)) <| ok_gst1 (pc' := 3) i4_0 o4 rfl <| ?_
  refine ok_kz0 (pc1 := 13) (pc2 := 6) i4_3 (by decide) rfl rfl <| ok_aloadn (pc' := 7) i4_6 rfl rfl <| ok_getfc (pc' := 10) i4_7 o4 hStr.1 rfl <| ok_goto (pc' := 14) i4_10 rfl <| ok_iretb i4_14 rt4 (by decide) <| kt_v (pc' := 14) rfl <| ok_kc1 (pc1 := 21) (pc2 := 17) i173_14 (by decide) rfl rfl <| ok_vret i173_21 rt173 <| ?_
  refine kt_0 (pc' := 5) rfl <| ok_aloadn (pc' := 6) i172_5 rfl rfl <| ok_aloadn (pc' := 7) i172_6 rfl rfl <| ok_getfr (r := V) (pc' := 10) i172_7 o172 gr24_15 (hS.k) (hS.r) rfl <| ok_iloadn (pc' := 11) i172_10 rfl rfl <| ok_aloadn (pc' := 12) i172_11 rfl rfl <| ok_getfi (v := 0) (pc' := 15) i172_12 o172 gi24_22 (hS.k) (hS.c) rfl <| ok_cc i172_15 rfl (cl_v o172 m24_399 na156 rfl rfl (bt rfl) (bt rfl) rfl (by rw [hStr.1, o156])) ln156 (pd156 (aR a) (aR V) (aI t.1) (aI 0)) <| ?_
  refine ok_aloadn (pc' := 1) i156_0 rfl rfl <| ok_cc i156_1 rfl (cl_v o156 m14_335 na4 rfl rfl (bt rfl) (bt rfl) rfl (by rw [hStr.1, o4])) ln4 (pd4 (aR a)) <| ok_gst1 (pc' := 3) i4_0 o4 rfl <| ok_kz0 (pc1 := 13) (pc2 := 6) i4_3 (by decide) rfl rfl <| ok_aloadn (pc' := 7) i4_6 rfl rfl <| ok_getfc (pc' := 10) i4_7 o4 hStr.1 rfl <| ok_goto (pc' := 14) i4_10 rfl <| ok_iretb i4_14 rt4 (by decide) <| ?_
  refine kt_v (pc' := 4) rfl <| ok_iloadn (pc' := 5) i156_4 rfl rfl <| ok_kc0 (pc1 := 28) (pc2 := 8) i156_5 (by decide) rfl rfl <| ok_aloadn (pc' := 9) i156_8 rfl rfl <| ok_getfs (r := a + 1) (pc' := 12) i156_9 o156 hStr.1 hStr.2.1 rfl <| ok_iconst (pc' := 13) i156_12 rfl <| ok_aloadn (pc' := 14) i156_13 rfl rfl <| ok_iloadn (pc' := 15) i156_14 rfl rfl <| ?_
  refine ok_iloadn (pc' := 16) i156_15 rfl rfl <| ok_ishl (v := t.1) (pc' := 17) i156_16 (shl0 (by omega)) rfl <| ok_aloadn (pc' := 18) i156_17 rfl rfl <| ok_getfs (r := a + 1) (pc' := 21) i156_18 o156 hStr.1 hStr.2.1 rfl <| ok_arrlen (v := m) (pc' := 22) i156_21 (hStr.2.2.1) (by decide) ((show ((gL g (a + 1) : Nat) : Int) = m by rw [hStr.2.2.2]; exact hnm)) rfl <| ?_
  have hl9 := hS.l
  have hk9 := hStr.2.2.1
  have hL9 : ((gL g (a + 1) : Nat) : Int) = m := by rw [hStr.2.2.2]; exact hnm
  refine ok_bcopy (pc' := 25) i156_22 o156 m14_212 hS.v (Or.inr hk9) rfl rfl (by omega) (bt rfl) rfl <| ok_goto (pc' := 43) i156_25 rfl <| ok_vret i156_43 rt156 <| kt_0 (pc' := 18) rfl <| ok_vret i172_18 rt172 <| kt_0 (pc' := 33) rfl <| ok_aloadn (pc' := 34) i168_33 rfl rfl <| ok_dup (pc' := 35) i168_34 rfl rfl <| ?_
  refine ok_getfi (v := t.1) (pc' := 38) i168_35 o168 gi24_79 (hS.k) ((rd_nM hS.d hS.n)) rfl <| ok_iloadn (pc' := 39) i168_38 rfl rfl <| ok_iadd (v := (t.1 + m)) (pc' := 40) i168_39 rfl rfl <| ok_putfj (kk := 3) (pc' := 43) i168_40 o168 pi168_79 (hS.k) rfl rfl <| ok_aloadn (pc' := 44) i168_43 rfl rfl <| ok_aret i168_44 (by rw [rt168]) <| kt_v (pc' := 5) rfl <| ok_pop (pc' := 6) i183_5 rfl rfl <| ?_
  refine ok_aloadn (pc' := 7) i183_6 rfl rfl <| ok_aret i183_7 (by rw [rt183]) <| ?_
  exact ⟨rfl, rfl, sb_eW hS hnm hm2 hT, (Fr.upm Fr.rfl (Or.inl (Or.inr rfl))).up (Or.inl (Or.inl rfl))⟩
/-- new StringBuilder(String) -/
theorem t181 {g : AG} {M : AM} {B a n : Nat} {m : Int} {tx f : Int → Int} (hO : OA g M B 18 f) (hf : f 3 = 0) (h0 : 100 ≤ B) (hB1 : B < 100 + gN g) (hStr : ShStr g a n) (hnm : (n : Int) = m) (ha0 : 10 ≤ a ∧ a < 42) (ha : a + 1 < 100) (hm : 0 ≤ m ∧ m ≤ 20) (hT : ∀ i : Int, 0 ≤ i → i < m → M (a + 1) i = tx i ∧ 0 ≤ tx i ∧ tx i ≤ 127) : Ok 11 181 0 [aR B, aR a] [] g M (fun o g1 M1 => o = .inl none ∧ ∃ V : Nat, V = 100 + gN g ∧ gN g1 = gN g + 1 ∧ SB g1 M1 B V (m + 16) (sayW t00 tx n) ∧ Fr (fun c => c = B) 1 40 g M g1 M1) := by
  have hk18 := hO.1
  refine ok_aloadn (pc' := 1) i181_0 rfl rfl <| ok_aloadn (pc' := 2) i181_1 rfl rfl <| ok_cc i181_2 rfl (cl_i o181 (Or.inl m18_7) na167 rfl rfl (bt rfl) (bt rfl) rfl (by rw [hk18]; decide)) ln167 (pd167 (aR B) (aR a)) <| ok_aloadn (pc' := 1) i167_0 rfl rfl <| ok_objinit (pc' := 4) i167_1 o167 m24_3 (by rw [hk18]; decide) (bt rfl) rfl <| ok_aloadn (pc' := 5) i167_4 rfl rfl <| ok_cc i167_5 rfl (cl_v o167 m24_32 na1 rfl rfl (bt rfl) (bt rfl) rfl (by rw [hStr.1, o1])) ln1 (pd1 (aR a)) <| ok_aloadn (pc' := 1) i1_0 rfl rfl <| ?_
  refine ok_getfs (r := a + 1) (pc' := 4) i1_1 o1 hStr.1 hStr.2.1 rfl <| ok_arrlen (v := m) (pc' := 5) i1_4 (hStr.2.2.1) (by decide) ((show ((gL g (a + 1) : Nat) : Int) = m by rw [hStr.2.2.2]; exact hnm)) rfl <| ok_aloadn (pc' := 6) i1_5 rfl rfl <| ok_cc i1_6 rfl (cl_v o1 m14_335 na4 rfl rfl (bt rfl) (bt rfl) rfl (by rw [hStr.1, o4])) ln4 (pd4 (aR a)) <| ok_gst1 (pc' := 3) i4_0 o4 rfl <| ok_kz0 (pc1 := 13) (pc2 := 6) i4_3 (by decide) rfl rfl <| ok_aloadn (pc' := 7) i4_6 rfl rfl <| ok_getfc (pc' := 10) i4_7 o4 hStr.1 rfl <| ?_
  refine ok_goto (pc' := 14) i4_10 rfl <| ok_iretb i4_14 rt4 (by decide) <| kt_v (pc' := 9) rfl <| ok_ishr (v := m) (pc' := 10) i1_9 (shr0 (by omega)) rfl <| ok_ireti i1_10 rt1 <| kt_v (pc' := 8) rfl <| ok_istoren (pc' := 9) (ls' := [aR B, aR a, aI m, aU, aU]) i167_8 (bt rfl) rfl rfl <| ok_iloadn (pc' := 10) i167_9 rfl rfl <| ?_
  refine ok_ldct (x := 2147483631) (pc' := 12) i167_10 o167 ct24_38 rfl <| ?_
  refine ok_cge (pc1 := 22) (pc2 := 15) i167_12 (by omega) rfl rfl (fun h9 => by exfalso; omega) (fun h1 => ?_)
  refine ok_iloadn (pc' := 16) i167_15 rfl rfl <| ok_bipush (v := 16) (pc' := 18) i167_16 rfl rfl <| ok_iadd (v := (m + 16)) (pc' := 19) i167_18 rfl rfl <| ok_goto (pc' := 24) i167_19 rfl <| ok_istoren (pc' := 25) (ls' := [aR B, aR a, aI m, aI (m + 16), aU]) i167_24 (bt rfl) rfl rfl <| ok_aloadn (pc' := 26) i167_25 rfl rfl <| ok_cc i167_26 rfl (cl_v o167 m24_40 na4 rfl rfl (bt rfl) (bt rfl) rfl (by rw [hStr.1, o4])) ln4 (pd4 (aR a)) <| ok_gst1 (pc' := 3) i4_0 o4 rfl <| ?_
  refine ok_kz0 (pc1 := 13) (pc2 := 6) i4_3 (by decide) rfl rfl <| ok_aloadn (pc' := 7) i4_6 rfl rfl <| ok_getfc (pc' := 10) i4_7 o4 hStr.1 rfl <| ok_goto (pc' := 14) i4_10 rfl <| ok_iretb i4_14 rt4 (by decide) <| kt_v (pc' := 29) rfl <| ok_istore (pc' := 31) (ls' := [aR B, aR a, aI m, aI (m + 16), aI 0]) i167_29 (bt rfl) rfl rfl <| ok_aloadn (pc' := 32) i167_31 rfl rfl <| ?_
  refine ok_iload (pc' := 34) i167_32 rfl rfl <| ok_putfb (pc' := 37) i167_34 o167 pb167_22 (hk18) (by omega) rfl <| ?_
  have hO1 := OA.up (x := 1) (v := 0) hO
  refine ok_aloadn (pc' := 38) i167_37 rfl rfl <| ok_iload (pc' := 40) i167_38 rfl rfl <| ok_kz0 (pc1 := 49) (pc2 := 43) i167_40 (by decide) rfl rfl <| ok_iloadn (pc' := 44) i167_43 rfl rfl <| ?_
  refine ok_nba (pc' := 46) i167_44 (by omega) rfl (fun xb2 gb2 Mb2 hx2 hn2 hk2 hz2 eb2 => ?_)
  have hk18 : gK gb2 B = 18 := (eb2.k hB1).trans hk18
  refine ok_goto (pc' := 53) i167_46 rfl <| ok_putfr (pc' := 56) i167_53 o167 pr167_15 (hk18) rfl <| ok_aloadn (pc' := 57) i167_56 rfl rfl <| ok_aloadn (pc' := 58) i167_57 rfl rfl <| ok_cc i167_58 rfl (cl_u o167 m24_43 na182 rfl rfl (bt rfl) (bt rfl) rfl hk18) ln182 (pd182 (aR B) (aR a)) <| ok_aloadn (pc' := 1) i182_0 rfl rfl <| ok_aloadn (pc' := 2) i182_1 rfl rfl <| ?_
  have h9 := sb_new hO1 h0 hB1 hx2 hn2 hk2 eb2 (by omega) (by rw [upI_ne (by omega)]; exact hf)
  have hm1 : up2 Mb2 B 1 0 = Mb2 := up2_self (by rw [eb2.m0 hB1]; exact rd_eq)
  rw [hm1] at h9
  obtain ⟨hS9, hF9⟩ := h9
  have hT9 : ∀ i : Int, 0 ≤ i → i < m → Mb2 (a + 1) i = tx i ∧ 0 ≤ tx i ∧ tx i ≤ 127 := fun i i0 i1 => by rw [hF9.m (by omega) (fun h => by have h8 : a + 1 = B := h; omega), up2_na (by omega)]; exact hT i i0 i1
  have hStr9 := hStr.fr hF9 ha (fun h => by have h8 : a = B := h; omega)
  refine ok_cc i182_2 rfl (cl_v o182 m18_23 na183 rfl rfl (bt rfl) (bt rfl) rfl (hS9.k.trans o183.symm)) ln183 (pd183 (aR B) (aR a)) <| (Ok.deep (sbS0 hS9 (by omega) hStr9 hnm ha0 (by omega) (by show 0 + m ≤ m + 16; omega) hT9) (by omega)).mono (fun o9 g9 M9 p9 => ?_)
  obtain ⟨rfl, eg9, hSB, hFB⟩ := p9
  rw [eg9]
  refine kt_v (pc' := 5) rfl <| ok_aret i182_5 (by rw [rt182]) <| kt_v (pc' := 61) rfl <| ok_pop (pc' := 62) i167_61 rfl rfl <| ok_vret i167_62 rt167 <| kt_0 (pc' := 5) rfl <| ok_vret i181_5 rt181 <| ?_
  have f1 := Fr.trans (Fr.up (F := fun c => c = B) (a := B) (x := 1) (v := 0) (Fr.rfl (g := g) (M := M)) (Or.inl rfl)) hF9
  exact ⟨rfl, _, hx2.symm, hn2, hSB, Fr.w (Fr.tr2 f1 hFB (fun c c0 hc => hc.elim (fun h => h) (fun h => by exfalso; omega))) (by omega) (by omega)⟩
