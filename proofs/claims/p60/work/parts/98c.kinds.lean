/-! THE KINDS ARE DRAWN (by program, wip/p60/gen) -/
theorem Yd.ab {g g1 : AG} {M : AM} {O a0 : Nat} {A : YA} {s q : Int → Int} {x : Int} (h : Yd g M O A s q) (ha : (a0 = 104 ∧ q 0 ≤ x) ∨ (a0 = 105 ∧ q 1 ≤ x)) (n : gN g1 = gN g) (kl : gK g1 = gK g ∧ gL g1 = gL g) (r : ∀ j : Int, j ≠ x → gR g1 a0 j = gR g a0 j) (o : ∀ c : Nat, c ≠ a0 → SG g g1 c) : Yd g1 M O A s q := by
  obtain ⟨G, m, ct, li⟩ := h
  have ou : ∀ c : Nat, Ou g O c → Ou g1 O c := fun c hc => hc.aa n
  have k1 := kl.1
  have k2 := kl.2
  have r4 : ∀ k : Int, 0 ≤ k → k < q 0 → gR g1 104 k = gR g 104 k := fun k _ hk => by
    by_cases e : a0 = 104
    · subst e; exact r k (by omega)
    · exact congrFun (o 104 (fun h => e h.symm)).2.2 k
  have r5 : ∀ k : Int, 0 ≤ k → k < q 1 → gR g1 105 k = gR g 105 k := fun k _ hk => by
    by_cases e : a0 = 105
    · subst e; exact r k (by omega)
    · exact congrFun (o 105 (fun h => e h.symm)).2.2 k
  have r6 : ∀ k : Int, gR g1 106 k = gR g 106 k := fun k => congrFun (o 106 (by omega)).2.2 k
  have r7 : ∀ k : Int, gR g1 107 k = gR g 107 k := fun k => congrFun (o 107 (by omega)).2.2 k
  have r8 : ∀ k : Int, gR g1 108 k = gR g 108 k := fun k => congrFun (o 108 (by omega)).2.2 k
  have rr : ∀ c : Nat, c = 101 → gR g1 c = gR g c := fun c hc => (o c (by omega)).2.2
  refine ⟨⟨by rw [n]; exact G.n, G.o, by rw [k1]; exact G.ky, by rw [k1]; exact G.k4, by rw [k2]; exact G.l4, by rw [k1]; exact G.k5, by rw [k2]; exact G.l5, by rw [k1]; exact G.k6, by rw [k2]; exact G.l6, by rw [k1]; exact G.k7, by rw [k2]; exact G.l7, by rw [k1]; exact G.k8, by rw [k2]; exact G.l8, by rw [k1]; exact G.k9, by rw [k2]; exact G.l9, by rw [k1]; exact G.ka, by rw [k2]; exact G.la, by rw [rr 101 (by omega)]; exact G.r1, by rw [rr 101 (by omega)]; exact G.r2, by rw [rr 101 (by omega)]; exact G.r3, by rw [rr 101 (by omega)]; exact G.r4, by rw [rr 101 (by omega)]; exact G.r5, by rw [rr 101 (by omega)]; exact G.r6, by rw [rr 101 (by omega)]; exact G.r7, ?_, G.ri, ?_, G.di, ?_, ?_, ?_⟩, m, ?_, li⟩
  · intro k k0 k3
    rw [r7 k, k1]
    exact ⟨(G.rr k k0 k3).1, ou _ (G.rr k k0 k3).2.1, (G.rr k k0 k3).2.2⟩
  · intro k k0 k3
    rw [r8 k, k1]
    exact ⟨(G.dd k k0 k3).1, ou _ (G.dd k k0 k3).2.1, (G.dd k k0 k3).2.2⟩
  · intro k k0 k3
    rw [r4 k k0 k3, k1, k2]
    exact ⟨(G.kk k k0 k3).1, ou _ (G.kk k k0 k3).2.1, (G.kk k k0 k3).2.2⟩
  · intro k k0 k3
    rw [r5 k k0 k3, k1, k2]
    exact ⟨(G.pp k k0 k3).1, ou _ (G.pp k k0 k3).2.1, (G.pp k k0 k3).2.2⟩
  · intro k k0 k3
    rw [r6 k, k1, k2]
    exact ⟨ou _ (G.cc k k0 k3).1, (G.cc k k0 k3).2⟩
  · intro k k0 k3
    rw [r6 k]
    exact ct k k0 k3
theorem o195 : am_oc 195 = 17 := by decide +kernel
theorem m17_50 : am_mlk 17 50 0 192 = true := by decide +kernel
theorem gi17_72 : am_gfi 17 72 17 8 = true := by decide +kernel
theorem pi195_72 : am_pfi 195 17 72 17 8 = true := by decide +kernel
theorem gr17_14 : am_gfr 17 14 17 0 = true := by decide +kernel
theorem sr17_75 : (am_sr 17 75).map (fun q => q.2.1) = some 30 := by decide +kernel
theorem cn17_75 : am_ct 17 75 = none := by decide +kernel
theorem m17_69 : am_mlk 17 69 0 183 = true := by decide +kernel
theorem m17_63 : am_mlk 17 63 0 184 = true := by decide +kernel
theorem m17_77 : am_mlk 17 77 0 185 = true := by decide +kernel
theorem H_n {g : AG} {M : AM} {L : Nat} {d : Int} {t : Tx} {A : YA} {s q : Int → Int} {V : Nat} {C : Int} {n z : Nat} (h : YI g M L d t A s q V C n z) : gN g ≤ n ∧ 11 ≤ gN g ∧ (V = 103 ∨ 111 ≤ V) := ⟨h.2.2.2.2.2.2.2.1, h.1.gr.n, h.2.2.2.2.2.2.1⟩
/-- the kinds -/
theorem w195_130 {g : AG} {M : AM} {L : Nat} {d0 c0 : Int} {t : Tx} {A : YA} {s q : Int → Int} {V : Nat} {C : Int} {n0 z0 : Nat} {dd : Nat} {Q : AO → AG → AM → Prop} (H : YI g M L d0 t A s q V C n0 z0) (hn0 : n0 ≤ 500000) (hPI : PI t q s) (hq0 : q 0 = 0) (hq1 : q 1 = 0) (hc : 1 ≤ c0 ∧ c0 ≤ 3) (hd : 0 ≤ d0 ∧ d0 ≤ 10) (ht : t.1 ≤ 40) (K : ∀ (g : AG) (M : AM) (c d : Int) (t : Tx) (A : YA) (q : Int → Int) (V : Nat) (C : Int) (w : AV × AV), YI g M L d t A s q V C (n0 + 24) (z0 + 6) → PI t q s → (∀ k : Int, 0 ≤ k → k < q 0 → 6 * k + 1 ≤ q (2 + k) ∧ q (2 + k) ≤ 6 * k + 6) → q 1 = 0 → (1 ≤ q 0 ∧ q 0 ≤ 3) → (0 ≤ d ∧ d ≤ 16) → t.1 ≤ 85 → am_cat w.1 = 1 → am_cat w.2 = 1 → Ok (dd + 14) 195 219 [aR 101, aR 100, aI c, w.1, w.2, aU, aU] [] g M Q) : Ok (dd + 14) 195 130 [aR 101, aR 100, aI c0, aU, aU, aU, aU] [] g M Q := by
  refine ok_lp (σ := Nat) (fun j ls g M => ∃ (c d : Int) (t : Tx) (A : YA) (q : Int → Int) (V : Nat) (C : Int) (w3 w4 : AV), q 0 = (j : Int) ∧ (0 ≤ c ∧ c + j ≤ 3 ∧ 1 ≤ c + j) ∧ YI g M L d t A s q V C (n0 + 8 * j) (z0 + 2 * j) ∧ PI t q s ∧ (∀ k : Int, 0 ≤ k → k < q 0 → 6 * k + 1 ≤ q (2 + k) ∧ q (2 + k) ≤ 6 * k + 6) ∧ q 1 = 0 ∧ (0 ≤ d ∧ d ≤ 10 + 2 * j) ∧ t.1 ≤ 40 + 15 * j ∧ am_cat w3 = 1 ∧ am_cat w4 = 1 ∧ ls = [aR 101, aR 100, aI c, w3, w4, aU, aU]) (fun j => 4 - j) ?_ 0 _ g M ⟨c0, d0, t, A, q, V, C, aU, aU, hq0, by omega, H, hPI, fun k k0 k1 => by omega, hq1, by omega, by omega, rfl, rfl, rfl⟩
  rintro j ls g M ⟨c, d, t, A, q, V, C, w3, w4, hqj, hcj, H, hPI, hKP, hq1, hd, ht, hw3, hw4, rfl⟩ ih
  have hY0 := YI.y H
  have hcy0 := YI.c H
  have hzy0 := (YI.sb H).z
  have hny0 := H_n H
  by_cases hc0 : c = 0
  · subst hc0
    have H := YI.up H (n' := n0 + 24) (z' := z0 + 6) (by omega) (by omega)
    refine ok_iloadn (pc' := 131) i195_130 rfl rfl <| ok_kz1 (pc1 := 219) (pc2 := 134) i195_131 (by decide) rfl rfl <| ?_
    exact K _ _ 0 d t A q V C (w3, w4) H hPI hKP hq1 (by omega) (by omega) (by omega) hw3 hw4
  have hc1 : 1 ≤ c ∧ c ≤ 3 := by omega
  refine ok_iloadn (pc' := 131) i195_130 rfl rfl <| ?_
  refine ok_zle (pc1 := 219) (pc2 := 134) i195_131 (by omega) rfl rfl (fun h9 => by exfalso; omega) (fun h1 => ?_)
  refine ok_aloadn (pc' := 135) i195_134 rfl rfl <| ok_iconst (pc' := 136) i195_135 rfl <| ok_bipush (v := 6) (pc' := 138) i195_136 rfl rfl <| ?_
  refine ok_cc i195_138 rfl (cl_v o195 m17_50 na192 rfl rfl (bt rfl) (bt rfl) rfl (by rw [(YI.dr H).1, o192])) ln192 (pd192 (aR 100) (aI 1) (aI 6)) <| (Ok.deep (t192 (YI.dr H) ⟨by omega, by omega⟩ (by omega)) (by omega)).mono (fun o9 g1d M1d p1d => ?_)
  obtain ⟨v1, rfl, hl1, hh1, eg1, em1⟩ := p1d
  have H1 := YI.dw H (by omega)
  rw [← em1, ← eg1] at H1
  clear em1 eg1
  have hY1 := YI.y H1
  have hcy1 := YI.c H1
  have hzy1 := (YI.sb H1).z
  have hny1 := H_n H1
  refine kt_v (pc' := 141) rfl <| ok_bipush (v := 6) (pc' := 143) i195_141 rfl rfl <| ok_aloadn (pc' := 144) i195_143 rfl rfl <| ok_getfi (v := (q 0)) (pc' := 147) i195_144 o195 gi17_72 (hY1.gr.ky) (hY1.mr.q0) rfl <| ok_imul (v := (6 * (q 0))) (pc' := 148) i195_147 rfl rfl <| ok_iadd (v := (v1 + (6 * (q 0)))) (pc' := 149) i195_148 rfl rfl <| ok_istoren (pc' := 150) (ls' := [aR 101, aR 100, aI c, aI (v1 + (6 * (q 0))), w4, aU, aU]) i195_149 (bt rfl) rfl rfl <| ok_aloadn (pc' := 151) i195_150 rfl rfl <| ?_
  refine ok_iconst (pc' := 152) i195_151 rfl <| ok_iconst (pc' := 153) i195_152 rfl <| ?_
  refine ok_cc i195_153 rfl (cl_v o195 m17_50 na192 rfl rfl (bt rfl) (bt rfl) rfl (by rw [(YI.dr H1).1, o192])) ln192 (pd192 (aR 100) (aI 1) (aI 5)) <| (Ok.deep (t192 (YI.dr H1) ⟨by omega, by omega⟩ (by omega)) (by omega)).mono (fun o9 g2d M2d p2d => ?_)
  obtain ⟨v2, rfl, hl2, hh2, eg2, em2⟩ := p2d
  have H2 := YI.dw H1 (by omega)
  rw [← em2, ← eg2] at H2
  clear em2 eg2
  have hY2 := YI.y H2
  have hcy2 := YI.c H2
  have hzy2 := (YI.sb H2).z
  have hny2 := H_n H2
  refine kt_v (pc' := 156) rfl <| ok_istore (pc' := 158) (ls' := [aR 101, aR 100, aI c, aI (v1 + (6 * (q 0))), aI v2, aU, aU]) i195_156 (bt rfl) rfl rfl <| ok_aloadn (pc' := 159) i195_158 rfl rfl <| ok_getfr (r := 104) (pc' := 162) i195_159 o195 gr17_22 (hY2.gr.ky) (hY2.gr.r1) rfl <| ok_aloadn (pc' := 163) i195_162 rfl rfl <| ok_getfi (v := (q 0)) (pc' := 166) i195_163 o195 gi17_72 (hY2.gr.ky) (hY2.mr.q0) rfl <| ok_iconst (pc' := 167) i195_166 rfl <| ?_
  refine ok_nia (pc' := 169) i195_167 (by decide) rfl (fun x g9 M9 hx hn hA e9 => ?_)
  have hF9 := e9
  have hY9 := (YI.y H2).f0 e9
  refine ok_dup (pc' := 170) i195_169 rfl rfl <| ok_iconst (pc' := 171) i195_170 rfl <| ok_iloadn (pc' := 172) i195_171 rfl rfl <| ?_
  have b2 := hA.2.1
  refine ok_iastore (pc' := 173) i195_172 (hA.1) (rfl) (by omega) rfl <| ?_
  have e93 := Fr.up (x := 0) (v := (v1 + (6 * (q 0)))) e9 (Or.inr (Nat.le_of_eq hx))
  have hA3 := IA.up (x := 0) (v := (v1 + (6 * (q 0)))) hA
  have hY93 := (YI.y H2).f0 e93
  refine ok_dup (pc' := 174) i195_173 rfl rfl <| ok_iconst (pc' := 175) i195_174 rfl <| ok_iload (pc' := 177) i195_175 rfl rfl <| ?_
  have b4 := hA3.2.1
  refine ok_iastore (pc' := 178) i195_177 (hA3.1) (rfl) (by omega) rfl <| ?_
  have e95 := Fr.up (x := 1) (v := v2) e93 (Or.inr (Nat.le_of_eq hx))
  have hA5 := IA.up (x := 1) (v := v2) hA3
  have hY95 := (YI.y H2).f0 e95
  have H9 := YI.f0 H2 e95
  have hY8 := YI.y H9
  refine ok_aastF (pc' := 179) i195_178 (Or.inr (Or.inl ⟨hY8.gr.k4, hA5.1⟩)) (by rw [hY8.gr.l4]; omega) rfl (fun g8 n8 z8 r8 k8 o8 s8 => ?_)
  have hA8 := IA.aa hA5 k8
  have hY7 := Yd.ab hY8 (Or.inl ⟨rfl, by omega⟩) n8 k8 o8 s8
  refine ok_aloadn (pc' := 180) i195_179 rfl rfl <| ok_dup (pc' := 181) i195_180 rfl rfl <| ok_getfi (v := (q 0)) (pc' := 184) i195_181 o195 gi17_72 (hY7.gr.ky) (hY7.mr.q0) rfl <| ok_iconst (pc' := 185) i195_184 rfl <| ok_iadd (v := ((q 0) + 1)) (pc' := 186) i195_185 rfl rfl <| ok_putfj (kk := 8) (pc' := 189) i195_186 o195 pi195_72 (hY7.gr.ky) rfl rfl <| ?_
  have hou : Ou g8 OX x := ⟨by omega, by omega, Or.inl (by unfold OX; omega)⟩
  have hYz := Yd.addK (L := (v1 + (6 * (q 0)))) (P := v2) hY7 (by omega) r8 hou ⟨hA8.1, by have := hA8.2.1; omega⟩ (hA8.2.2 0 (by decide) (by decide)) (hA8.2.2 1 (by decide) (by decide))
  have Hz := YI.ch H9 hYz ((Fr.aa Fr.rfl (by unfold FI; omega) n8 z8 k8 s8).up (Or.inl (by unfold FI; omega))) ((s8 101 (by decide)).2.2 ▸ rfl)
  have hYy := YI.y Hz
  have hcyz := YI.c Hz
  have hzyz := (YI.sb Hz).z
  refine ok_aloadn (pc' := 190) i195_189 rfl rfl <| ok_getfr (r := 102) (pc' := 193) i195_190 o195 gr17_14 (hYy.gr.ky) (YI.r Hz) rfl <| ok_ldcz (pc' := 195) i195_193 o195 cn17_75 sr17_75 rfl <| ?_
  have hst := BS.str (YI.bs Hz) (j := 10) (by decide)
  refine ok_cc i195_195 rfl (cl_v o195 m17_69 na183 rfl rfl (bt rfl) (bt rfl) rfl (by rw [(YI.sb Hz).k, o183])) ln183 (pd183 (aR 102) (aR 30)) <| (Ok.deep (sbS (m := 6) (tx := stx 10) (YI.sb Hz) hst.1 rfl (by decide) (by decide) (by decide) (fun i i0 i1 => ⟨hst.2 i i0 i1, tb (P := fun i => 0 ≤ stx 10 i ∧ stx 10 i ≤ 127) (m := 6) (by decide) i i0 i1⟩) (by omega) (by omega)) (by omega)).mono (fun o9 g3p M3p p3p => ?_)
  obtain ⟨rfl, V3, C3, hSp3, hGp3⟩ := p3p
  have H3 := YI.ap Hz hSp3 hGp3 (by rw [sayW_1]; show _ + ((6 : Nat) : Int) ≤ _; omega)
  obtain ⟨t3, ht3⟩ : ∃ z : Tx, z = sayW t (stx 10) (stn 10) := ⟨_, rfl⟩
  rw [← ht3] at H3
  clear hSp3 hGp3
  have hl3 : t3.1 = t.1 + 6 := by rw [ht3]; exact sayW_1 _
  have hY3 := YI.y H3
  have hcy3 := YI.c H3
  have hzy3 := (YI.sb H3).z
  have hny3 := H_n H3
  refine kt_v (pc' := 198) rfl <| ok_iloadn (pc' := 199) i195_198 rfl rfl <| ?_
  refine ok_cc i195_199 rfl (cl_v o195 m17_63 na184 rfl rfl (bt rfl) (bt rfl) rfl (by rw [(YI.sb H3).k, o184])) ln184 (pd184 (aR 102) (aI (v1 + (6 * (q 0))))) <| (Ok.deep (sbI (x := (v1 + (6 * (q 0)))) (YI.sb H3) (YI.bs H3) (by omega) (by omega) (by omega)) (by omega)).mono (fun o9 g4p M4p p4p => ?_)
  obtain ⟨rfl, V4, C4, hSp4, hGp4⟩ := p4p
  have H4 := YI.ap H3 hSp4 hGp4 (by have := (sayN_1 (t := t3) (v := (v1 + (6 * (q 0))))).2; omega)
  obtain ⟨t4, ht4⟩ : ∃ z : Tx, z = sayN t3 (v1 + (6 * (q 0))) := ⟨_, rfl⟩
  rw [← ht4] at H4
  clear hSp4 hGp4
  have hl4 : t3.1 + 1 ≤ t4.1 ∧ t4.1 ≤ t3.1 + 3 := by rw [ht4]; exact sayN_1
  have hY4 := YI.y H4
  have hcy4 := YI.c H4
  have hzy4 := (YI.sb H4).z
  have hny4 := H_n H4
  refine kt_v (pc' := 202) rfl <| ok_bipush (v := 32) (pc' := 204) i195_202 rfl rfl <| ?_
  refine ok_cc i195_204 rfl (cl_v o195 m17_77 na185 rfl rfl (bt rfl) (bt rfl) rfl (by rw [(YI.sb H4).k, o185])) ln185 (pd185 (aR 102) (aI 32)) <| (Ok.deep (sbC (c := 32) (YI.sb H4) (by omega) (by omega) (by omega)) (by omega)).mono (fun o9 g5p M5p p5p => ?_)
  obtain ⟨rfl, V5, C5, hSp5, hGp5⟩ := p5p
  have H5 := YI.ap H4 hSp5 hGp5 (by omega)
  obtain ⟨t5, ht5⟩ : ∃ z : Tx, z = say t4 32 := ⟨_, rfl⟩
  rw [← ht5] at H5
  clear hSp5 hGp5
  have hl5 : t5.1 = t4.1 + 1 := by rw [ht5]; rfl
  have hY5 := YI.y H5
  have hcy5 := YI.c H5
  have hzy5 := (YI.sb H5).z
  have hny5 := H_n H5
  refine kt_v (pc' := 207) rfl <| ok_iload (pc' := 209) i195_207 rfl rfl <| ?_
  refine ok_cc i195_209 rfl (cl_v o195 m17_63 na184 rfl rfl (bt rfl) (bt rfl) rfl (by rw [(YI.sb H5).k, o184])) ln184 (pd184 (aR 102) (aI v2)) <| (Ok.deep (sbI (x := v2) (YI.sb H5) (YI.bs H5) (by omega) (by omega) (by omega)) (by omega)).mono (fun o9 g6p M6p p6p => ?_)
  obtain ⟨rfl, V6, C6, hSp6, hGp6⟩ := p6p
  have H6 := YI.ap H5 hSp6 hGp6 (by have := (sayN_1 (t := t5) (v := v2)).2; omega)
  obtain ⟨t6, ht6⟩ : ∃ z : Tx, z = sayN t5 v2 := ⟨_, rfl⟩
  rw [← ht6] at H6
  clear hSp6 hGp6
  have hl6 : t5.1 + 1 ≤ t6.1 ∧ t6.1 ≤ t5.1 + 3 := by rw [ht6]; exact sayN_1
  have hY6 := YI.y H6
  have hcy6 := YI.c H6
  have hzy6 := (YI.sb H6).z
  have hny6 := H_n H6
  refine kt_v (pc' := 212) rfl <| ok_pop (pc' := 213) i195_212 rfl rfl <| ok_iinc (pc' := 216) (v := (c + (-1))) (ls' := [aR 101, aR 100, aI (c + (-1)), aI (v1 + (6 * (q 0))), aI v2, aU, aU]) i195_213 rfl rfl rfl rfl <| ok_goto (pc' := 130) i195_216 rfl <| ?_
  have hPI2 : PI t6 (entK q (v1 + (6 * (q 0))) v2) s := by rw [ht6, ht5, ht4, ht3]; exact PI_kind hPI (by omega) (by omega) (by omega) (fun k k0 k1 => by have := hKP k k0 k1; omega)
  obtain ⟨f0, f1, f2, f3, f4, f5⟩ := entK_f (q := q) (L := (v1 + (6 * (q 0)))) (P := v2) ⟨by omega, by omega⟩
  exact ih (j + 1) _ _ _ (by omega) ⟨c + (-1), ((d + 1) + 1), _, _, entK q (v1 + (6 * (q 0))) v2, _, _, _, _, by rw [f0]; omega, by omega, YI.up H6 (by omega) (by omega), hPI2, fun k k0 k1 => by
    rw [f0] at k1
    by_cases hk : k = q 0
    · subst hk; rw [f3]; omega
    · rw [(f2 k k0 (by omega)).1]; exact hKP k k0 (by omega), by rw [f1]; exact hq1, by omega, by omega, rfl, rfl, rfl⟩
