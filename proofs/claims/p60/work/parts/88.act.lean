/-! ACT: a change of both (by program, wip/p60/gen) -/
theorem o214 : am_oc 214 = 13 := by decide +kernel
theorem m13_227 : am_mlk 13 227 0 220 = true := by decide +kernel
theorem na220 : am_na 220 = 1 := by decide +kernel
theorem nl220 : am_nL 220 = 10 := by decide +kernel
theorem pd220 : ∀ a0 a1 : AV, am_pad 220 [a0, a1] = [a0, a1, aU, aU, aU, aU, aU, aU, aU, aU] := by intros; unfold am_pad; rw [nl220]; rfl
theorem ln220 : 2 ≤ am_nL 220 := by rw [nl220]; decide
theorem rt214 : am_rt 214 = some .boolean := by decide +kernel
theorem m13_92 : am_mlk 13 92 0 146 = true := by decide +kernel
theorem na146 : am_na 146 = 0 := by decide +kernel
theorem nl146 : am_nL 146 = 1 := by decide +kernel
theorem pd146 : ∀ a0 : AV, am_pad 146 [a0] = [a0] := by intros; unfold am_pad; rw [nl146]; rfl
theorem ln146 : 1 ≤ am_nL 146 := by rw [nl146]; decide
theorem m13_228 : am_mlk 13 228 0 206 = true := by decide +kernel
theorem na206 : am_na 206 = 0 := by decide +kernel
theorem nl206 : am_nL 206 = 4 := by decide +kernel
theorem pd206 : ∀ a0 : AV, am_pad 206 [a0] = [a0, aU, aU, aU] := by intros; unfold am_pad; rw [nl206]; rfl
theorem ln206 : 1 ≤ am_nL 206 := by rw [nl206]; decide
theorem m13_238 : am_mlk 13 238 0 196 = true := by decide +kernel
theorem na196 : am_na 196 = 1 := by decide +kernel
theorem nl196 : am_nL 196 = 2 := by decide +kernel
theorem pd196 : ∀ a0 a1 : AV, am_pad 196 [a0, a1] = [a0, a1] := by intros; unfold am_pad; rw [nl196]; rfl
theorem ln196 : 2 ≤ am_nL 196 := by rw [nl196]; decide
theorem m13_245 : am_mlk 13 245 0 197 = true := by decide +kernel
theorem na197 : am_na 197 = 4 := by decide +kernel
theorem nl197 : am_nL 197 = 6 := by decide +kernel
theorem pd197 : ∀ a0 a1 a2 a3 a4 : AV, am_pad 197 [a0, a1, a2, a3, a4] = [a0, a1, a2, a3, a4, aU] := by intros; unfold am_pad; rw [nl197]; rfl
theorem ln197 : 5 ≤ am_nL 197 := by rw [nl197]; decide
theorem pi214_204 : am_pfi 214 13 204 15 5 = true := by decide +kernel
theorem pz214_213 : am_pfz 214 13 213 15 8 = true := by decide +kernel
theorem pi214_146 : am_pfi 214 13 146 17 14 = true := by decide +kernel
theorem pi214_149 : am_pfi 214 13 149 17 15 = true := by decide +kernel
theorem o215 : am_oc 215 = 13 := by decide +kernel
theorem rt215 : am_rt 215 = some .boolean := by decide +kernel
theorem m13_254 : am_mlk 13 254 0 207 = true := by decide +kernel
theorem m13_263 : am_mlk 13 263 0 203 = true := by decide +kernel
def FA : Nat → Prop := fun c => 101 ≤ c
theorem fa_c {g : AG} {M M1 : AM} {O : Nat} (ho : 111 ≤ O) (h : Wr O 348 M M1) : Fr FA 0 0 g M g M1 := Fr.wide (Fr.wr h) (fun c hc => by unfold FC at hc; unfold FA; omega) (Nat.le_refl _) (Nat.le_refl _)
theorem fa_y {g g1 : AG} {M M1 : AM} {O nc ns : Nat} (h : Fr (FY O) nc ns g M g1 M1) : Fr FA nc ns g M g1 M1 := Fr.wide h (fun c hc => by unfold FY at hc; unfold FA; omega) (Nat.le_refl _) (Nat.le_refl _)
theorem CW.up {g : AG} {M : AM} {O : Nat} {b b' : Int} {q s : Int → Int} (h : CW g M O b q s) (hb : b ≤ b' ∧ b' ≤ 1000000) : CW g M O b' q s := ⟨h.1, ⟨h.2.1.1, h.2.1.2.1, V_up h.2.1.v hb, h.2.1.2.2.2⟩, h.2.2⟩
theorem CW.ext {g : AG} {M : AM} {O : Nat} {b : Int} {q s t : Int → Int} (h : CW g M O b q s) (e : ∀ j : Int, s j = t j) : CW g M O b q t := by rw [← show s = t from funext e]; exact h
theorem CW.ch {g : AG} {M M1 : AM} {O : Nat} {b b' : Int} {q s t : Int → Int} (h : CW g M O b q s) (hM : CM M1 O b' q t) : CW g M1 O b' q t := ⟨h.1, hM, h.2.2⟩
theorem Yd.mm {g : AG} {M M' : AM} {O : Nat} {A : YA} {s q : Int → Int} (h : Yd g M O A s q) (e : ∀ c : Nat, 101 ≤ c → M' c = M c) : Yd g M' O A s q := by
  have m := h.mr
  refine ⟨h.gr, ⟨?_, ?_, ?_, ?_, ?_, ?_, ?_⟩, ?_, h.li⟩
  · intro c y z hc
    have hm := m.cl c y z hc
    rcases hc with h1 | h1 | h1 | ⟨k, k0, k1, rfl, _⟩ | ⟨k, k0, k1, rfl, _⟩
    · rw [e c (by omega)]; exact hm
    · rw [e c (by omega)]; exact hm
    · rw [e c (by omega)]; exact hm
    · rw [e _ (by have := (h.gr.rr k k0 k1).2.1.1; omega)]; exact hm
    · rw [e _ (by have := (h.gr.dd k k0 k1).2.1.1; omega)]; exact hm
  · intro k k0 k1
    rw [e _ (by have := (h.gr.rr k k0 k1).2.1.1; omega)]; exact m.rn k k0 k1
  · intro k k0 k1
    rw [e _ (by have := (h.gr.dd k k0 k1).2.1.1; omega)]; exact m.dn k k0 k1
  · rw [e 101 (by omega)]; exact m.q0
  · rw [e 101 (by omega)]; exact m.q1
  · intro k k0 k1
    rw [e _ (by have := (h.gr.kk k k0 k1).2.1.1; omega)]; exact m.kk k k0 k1
  · intro k k0 k1
    rw [e _ (by have := (h.gr.pp k k0 k1).2.1.1; omega)]; exact m.pp k k0 k1
  · intro k k0 k1
    rw [e _ (by have := (h.gr.cc k k0 k1).1.1; omega)]; exact h.ct k k0 k1
theorem CW.mm {g : AG} {M M' : AM} {O : Nat} {b : Int} {q s : Int → Int} (ho : 111 ≤ O) (h : CW g M O b q s) (e : ∀ c : Nat, 101 ≤ c → M' c = M c) : CW g M' O b q s := ⟨h.1, h.2.1.fr (fun c hc => e c (by omega)), h.2.2⟩
theorem Dr.fr {g g1 : AG} {M M1 : AM} {L nc ns : Nat} {d : Int} (h : Dr g M L d) (e : Fr FA nc ns g M g1 M1) (hn : 1 ≤ gN g) : Dr g1 M1 L d := by
  obtain ⟨h1, h2, h3, h4, h5, h6⟩ := h
  have n1 : ¬ FA 1 := fun h => by unfold FA at h; omega
  have n2 : ¬ FA 100 := fun h => by unfold FA at h; omega
  exact ⟨(e.k (by omega)).trans h1, by rw [e.r (by omega) n2]; exact h2, (e.k (by omega)).trans h3, (e.l (by omega)).trans h4, by rw [e.m (by omega) n2]; exact h5, h6⟩
theorem fa_ge {c : Nat} (h : 101 ≤ c) : FA c := h
theorem Ou.fa {g : AG} {O c : Nat} (h : Ou g O c) : FA c := by have := h.1; unfold FA; omega
theorem add_6 {s : Int → Int} {k l : Int} (h3 : 0 ≤ s 3 ∧ s 3 < 80) : addT s k l 6 = s 6 := by
  unfold addT
  rw [upI_ne (by omega), upI_ne (by omega), upI_ne (by omega), upI_ne (by omega), upI_ne (by omega), upI_ne (by omega)]
theorem w214_fill {g : AG} {M : AM} {O : Nat} {A : YA} {s q : Int → Int} {b : Int} {d : Nat} {w v k : Int} {Q : AO → AG → AM → Prop} (hY : Yd g M O A s q) (hW : CW g M O b q s) (hv : 1 ≤ v ∧ v ≤ 7) (hk : 0 ≤ k ∧ k ≤ 15) (h542 : s 542 = 0) (h40 : s 3 ≤ 40) (hb : b + 6 ≤ 200) (hw : 0 ≤ w ∧ w < 2) (hret : ∀ (g1 : AG) (M1 : AM) (A1 : YA) (s1 : Int → Int), Yd g1 M1 O A1 s1 q → CW g1 M1 O (b + 6) q s1 → s1 542 = 0 → s1 3 ≤ 40 → Fr FA 8800 198800 g M g1 M1 → Q (.inl (some (aI 1))) g1 M1) : Ok (d + 12) 214 26 [aR O, aR 101, aR 100, aI w, aI v, aI k, aU, aU] [] g M Q := by
  have hV := hW.2.1.v
  have hQ := V_q hV
  have y3 := V_3 hV
  have y4 := V_4 hV
  have y5 := V_5 hV
  have yq0 := Q_0 hQ
  have yq1 := Q_1 hQ
  have y0 := hV.2.1
  have yb := V_b hV
  have y1 := V_1 hV
  have y2 := V_2 hV
  have f0 : Fr FA 0 0 g M g M := Fr.rfl
  refine ok_iloadn (pc' := 27) i214_26 rfl rfl <| ok_iconst (pc' := 28) i214_27 rfl <| ?_
  refine ok_cge (pc1 := 56) (pc2 := 31) i214_28 (by omega) rfl rfl (fun h9 => by exfalso; omega) (fun h1 => ?_)
  refine ok_aloadn (pc' := 32) i214_31 rfl rfl <| ok_iload (pc' := 34) i214_32 rfl rfl <| ok_iconst (pc' := 35) i214_34 rfl <| ok_iremp (v := (Int.tmod k 4)) (pc' := 36) i214_35 (by omega) rfl rfl <| ?_
  have z2 : 0 ≤ (Int.tmod k 4) ∧ (Int.tmod k 4) ≤ 3 := tmod_f 4 (by omega) (by decide)
  refine ok_cc i214_36 rfl (cl_v o214 m13_89 na145 rfl rfl (bt rfl) (bt rfl) rfl (by rw [(ShYard_k0 hW.1.y), o145])) ln145 (pd145 (aR O) (aI (Int.tmod k 4))) <| (Ok.deep (y145 (x1 := (Int.tmod k 4)) hW.1 hW.2.1 ⟨by omega, by omega⟩ (by omega)) (by omega)).mono (fun o9 g1c M1c p1c => ?_)
  obtain ⟨rfl, eg1, hMc1, hWr1⟩ := p1c
  rw [eg1]
  have hYk1 := Yd.fc hY (Fr.wr hWr1)
  have hWk1 := CW.ch hW hMc1
  have fk1 := Fr.trans f0 (fa_c hY.gr.o hWr1)
  refine kt_v (pc' := 39) rfl <| ok_aloadn (pc' := 40) i214_39 rfl rfl <| ok_iload (pc' := 42) i214_40 rfl rfl <| ok_iconst (pc' := 43) i214_42 rfl <| ok_iremp (v := (Int.tmod k 4)) (pc' := 44) i214_43 (by omega) rfl rfl <| ?_
  refine ok_cc i214_44 rfl (cl_v o214 m13_227 na220 rfl rfl (bt rfl) (bt rfl) rfl (by rw [hYk1.gr.ky, o220])) ln220 (pd220 (aR 101) (aI (Int.tmod k 4))) <| (Ok.deep (t220 (x1 := (Int.tmod k 4)) hYk1 hV hWk1.2.2 ⟨by omega, by omega⟩) (by omega)).mono (fun o9 g2c M2c p2c => ?_)
  obtain ⟨rfl, hYk2, e2k⟩ := p2c
  have hWk2 := CW.fy hWk1 e2k
  have fk2 := Fr.trans fk1 (fa_y e2k)
  refine kt_v (pc' := 47) rfl <| ok_cnes (pc1 := 54) (pc2 := 50) i214_47 rfl rfl <| ok_iconst (pc' := 51) i214_50 rfl <| ok_goto (pc' := 55) i214_51 rfl <| ok_iretz i214_55 rt214 (by decide) <| ?_
  exact hret _ _ _ _ hYk2 (CW.up hWk2 ⟨by omega, by omega⟩) ((ful_keep hV (by omega) _).1.trans h542) (by rw [(ful_keep hV (by omega) _).2]; exact h40) (Fr.w fk2 (by omega) (by omega))
theorem w214_end {g : AG} {M : AM} {O : Nat} {A : YA} {s q : Int → Int} {b : Int} {d : Nat} {w v k : Int} {Q : AO → AG → AM → Prop} (hY : Yd g M O A s q) (hW : CW g M O b q s) (hv : 1 ≤ v ∧ v ≤ 7) (hk : 0 ≤ k ∧ k ≤ 15) (h542 : s 542 = 0) (h40 : s 3 ≤ 40) (hb : b + 6 ≤ 200) (hw : 2 ≤ w ∧ w < 4) (hret : ∀ (g1 : AG) (M1 : AM) (A1 : YA) (s1 : Int → Int), Yd g1 M1 O A1 s1 q → CW g1 M1 O (b + 6) q s1 → s1 542 = 0 → s1 3 ≤ 40 → Fr FA 8800 198800 g M g1 M1 → Q (.inl (some (aI 1))) g1 M1) : Ok (d + 12) 214 26 [aR O, aR 101, aR 100, aI w, aI v, aI k, aU, aU] [] g M Q := by
  have hV := hW.2.1.v
  have hQ := V_q hV
  have y3 := V_3 hV
  have y4 := V_4 hV
  have y5 := V_5 hV
  have yq0 := Q_0 hQ
  have yq1 := Q_1 hQ
  have y0 := hV.2.1
  have yb := V_b hV
  have y1 := V_1 hV
  have y2 := V_2 hV
  have f0 : Fr FA 0 0 g M g M := Fr.rfl
  refine ok_iloadn (pc' := 27) i214_26 rfl rfl <| ok_iconst (pc' := 28) i214_27 rfl <| ?_
  refine ok_cge (pc1 := 56) (pc2 := 31) i214_28 (by omega) rfl rfl (fun h1 => ?_) (fun h9 => by exfalso; omega)
  refine ok_iloadn (pc' := 57) i214_56 rfl rfl <| ok_iconst (pc' := 58) i214_57 rfl <| ?_
  refine ok_cge (pc1 := 78) (pc2 := 61) i214_58 (by omega) rfl rfl (fun h9 => by exfalso; omega) (fun h2 => ?_)
  refine ok_aloadn (pc' := 62) i214_61 rfl rfl <| ?_
  refine ok_cc i214_62 rfl (cl_v o214 m13_92 na146 rfl rfl (bt rfl) (bt rfl) rfl (by rw [(ShYard_k0 hW.1.y), o146])) ln146 (pd146 (aR O)) <| (Ok.deep (y146 hW.1 hW.2.1 (by omega)) (by omega)).mono (fun o9 g3c M3c p3c => ?_)
  obtain ⟨rfl, eg3, hMc3, hWr3⟩ := p3c
  rw [eg3]
  have hYk3 := Yd.fc hY (Fr.wr hWr3)
  have hWk3 := CW.ch hW hMc3
  have fk3 := Fr.trans f0 (fa_c hY.gr.o hWr3)
  refine kt_v (pc' := 65) rfl <| ok_aloadn (pc' := 66) i214_65 rfl rfl <| ?_
  refine ok_cc i214_66 rfl (cl_v o214 m13_228 na206 rfl rfl (bt rfl) (bt rfl) rfl (by rw [hYk3.gr.ky, o206])) ln206 (pd206 (aR 101)) <| (Ok.deep (t206 hYk3 hV) (by omega)).mono (fun o9 g4c M4c p4c => ?_)
  obtain ⟨rfl, hYk4, e4k⟩ := p4c
  have hWk4 := CW.fy hWk3 e4k
  have fk4 := Fr.trans fk3 (fa_y e4k)
  refine kt_v (pc' := 69) rfl <| ok_cnes (pc1 := 76) (pc2 := 72) i214_69 rfl rfl <| ok_iconst (pc' := 73) i214_72 rfl <| ok_goto (pc' := 77) i214_73 rfl <| ok_iretz i214_77 rt214 (by decide) <| ?_
  exact hret _ _ _ _ hYk4 (CW.up hWk4 ⟨by omega, by omega⟩) ((end_keep hV (by omega)).1.trans h542) (by rw [(end_keep hV (by omega)).2]; exact h40) (Fr.w fk4 (by omega) (by omega))
theorem w214_buy0 {g : AG} {M : AM} {O : Nat} {A : YA} {s q : Int → Int} {b : Int} {d : Nat} {w v k : Int} {Q : AO → AG → AM → Prop} (hY : Yd g M O A s q) (hW : CW g M O b q s) (hv : 1 ≤ v ∧ v ≤ 7) (hk : 0 ≤ k ∧ k ≤ 15) (h542 : s 542 = 0) (h40 : s 3 ≤ 40) (hb : b + 6 ≤ 200) (hw : w = 4) (hq0 : 1 ≤ q 0) (h3 : s 3 = 40) (hret : ∀ (g1 : AG) (M1 : AM) (A1 : YA) (s1 : Int → Int), Yd g1 M1 O A1 s1 q → CW g1 M1 O (b + 6) q s1 → s1 542 = 0 → s1 3 ≤ 40 → Fr FA 8800 198800 g M g1 M1 → Q (.inl (some (aI 1))) g1 M1) : Ok (d + 12) 214 26 [aR O, aR 101, aR 100, aI w, aI v, aI k, aU, aU] [] g M Q := by
  have hV := hW.2.1.v
  have hQ := V_q hV
  have y3 := V_3 hV
  have y4 := V_4 hV
  have y5 := V_5 hV
  have yq0 := Q_0 hQ
  have yq1 := Q_1 hQ
  have y0 := hV.2.1
  have yb := V_b hV
  have y1 := V_1 hV
  have y2 := V_2 hV
  have f0 : Fr FA 0 0 g M g M := Fr.rfl
  refine ok_iloadn (pc' := 27) i214_26 rfl rfl <| ok_iconst (pc' := 28) i214_27 rfl <| ?_
  refine ok_cge (pc1 := 56) (pc2 := 31) i214_28 (by omega) rfl rfl (fun h1 => ?_) (fun h9 => by exfalso; omega)
  refine ok_iloadn (pc' := 57) i214_56 rfl rfl <| ok_iconst (pc' := 58) i214_57 rfl <| ?_
  refine ok_cge (pc1 := 78) (pc2 := 61) i214_58 (by omega) rfl rfl (fun h2 => ?_) (fun h9 => by exfalso; omega)
  refine ok_iloadn (pc' := 79) i214_78 rfl rfl <| ok_iconst (pc' := 80) i214_79 rfl <| ?_
  refine ok_cne (pc1 := 177) (pc2 := 83) i214_80 (by omega) rfl rfl (fun h9 => by exfalso; omega) (fun h3 => ?_)
  refine ok_iload (pc' := 85) i214_83 rfl rfl <| ok_aloadn (pc' := 86) i214_85 rfl rfl <| ok_getfi (v := (q 0)) (pc' := 89) i214_86 o214 gi13_231 (hY.gr.ky) (hY.mr.q0) rfl <| ok_iremp (v := (Int.tmod k (q 0))) (pc' := 90) i214_89 (by omega) rfl rfl <| ?_
  have z4 : 0 ≤ (Int.tmod k (q 0)) ∧ (Int.tmod k (q 0)) < (q 0) := tmod_lt (by omega) (by omega)
  refine ok_istore (pc' := 92) (ls' := [aR O, aR 101, aR 100, aI w, aI v, aI k, aI (Int.tmod k (q 0)), aU]) i214_90 (bt rfl) rfl rfl <| ok_aloadn (pc' := 93) i214_92 rfl rfl <| ok_getfi (v := (s 3)) (pc' := 96) i214_93 o214 gi13_152 (hY.gr.ky) ((Yd.n3 hY)) rfl <| ok_bipush (v := 40) (pc' := 98) i214_96 rfl rfl <| ?_
  refine ok_cne (pc1 := 122) (pc2 := 101) i214_98 (by omega) rfl rfl (fun h9 => by exfalso; omega) (fun h5 => ?_)
  refine ok_aloadn (pc' := 102) i214_101 rfl rfl <| ok_bipush (v := 20) (pc' := 104) i214_102 rfl rfl <| ok_iload (pc' := 106) i214_104 rfl rfl <| ok_iconst (pc' := 107) i214_106 rfl <| ok_iconst (pc' := 108) i214_107 rfl <| ok_iconst (pc' := 109) i214_108 rfl <| ?_
  refine ok_cc i214_109 rfl (cl_s o214 m13_234 na211 rfl rfl (bt rfl) (bt rfl) rfl) ln211 (pd211 (aR O) (aI 20) (aI (Int.tmod k (q 0))) (aI 0) (aI 0) (aI 0)) <| (Ok.deep (t211_3 (k212_20 (lev := 2) (ShYard_k0 hW.1.y) (by omega) (y147_x1 (Y := O) (P := O + 38) (A := O + 49) (V := O + 73) (T := O + 74) (K := O + 100) (H := O + 102) (X := O + 346) (x1 := (Int.tmod k (q 0))) hW.1.y hW.1.w hW.1.p hW.1.s hW.2.1.p hW.2.1.s hQ hV ⟨by omega, by omega⟩ (by omega) hW.2.1.l))) (by omega)).mono (fun o9 g5t M5t p5t => ?_)
  obtain ⟨rfl, eg5t, em5t⟩ := p5t
  have et5 := Fr.xx eg5t em5t
  have hYc6 := Yd.f0 hY et5
  have hWc6 := CW.f0 hW et5
  have f6 := Fr.trans f0 (Fr.of0 et5)
  refine kt_v (pc' := 112) rfl <| ok_iconst (pc' := 113) i214_112 rfl <| ok_kc0 (pc1 := 120) (pc2 := 116) i214_113 (by decide) rfl rfl <| ok_iconst (pc' := 117) i214_116 rfl <| ok_goto (pc' := 121) i214_117 rfl <| ok_iretz i214_121 rt214 (by decide) <| ?_
  exact hret _ _ _ _ hYc6 (CW.up hWc6 ⟨by omega, by omega⟩) (h542) (h40) (Fr.w f6 (by omega) (by omega))
theorem w214_buy1 {g : AG} {M : AM} {O : Nat} {A : YA} {s q : Int → Int} {b : Int} {d : Nat} {w v k : Int} {Q : AO → AG → AM → Prop} (hY : Yd g M O A s q) (hW : CW g M O b q s) (hv : 1 ≤ v ∧ v ≤ 7) (hk : 0 ≤ k ∧ k ≤ 15) (h542 : s 542 = 0) (h40 : s 3 ≤ 40) (hb : b + 6 ≤ 200) (hw : w = 4) (hq0 : 1 ≤ q 0) (h3 : s 3 < 40) (hret : ∀ (g1 : AG) (M1 : AM) (A1 : YA) (s1 : Int → Int), Yd g1 M1 O A1 s1 q → CW g1 M1 O (b + 6) q s1 → s1 542 = 0 → s1 3 ≤ 40 → Fr FA 8800 198800 g M g1 M1 → Q (.inl (some (aI 1))) g1 M1) : Ok (d + 12) 214 26 [aR O, aR 101, aR 100, aI w, aI v, aI k, aU, aU] [] g M Q := by
  have hV := hW.2.1.v
  have hQ := V_q hV
  have y3 := V_3 hV
  have y4 := V_4 hV
  have y5 := V_5 hV
  have yq0 := Q_0 hQ
  have yq1 := Q_1 hQ
  have y0 := hV.2.1
  have yb := V_b hV
  have y1 := V_1 hV
  have y2 := V_2 hV
  have f0 : Fr FA 0 0 g M g M := Fr.rfl
  refine ok_iloadn (pc' := 27) i214_26 rfl rfl <| ok_iconst (pc' := 28) i214_27 rfl <| ?_
  refine ok_cge (pc1 := 56) (pc2 := 31) i214_28 (by omega) rfl rfl (fun h1 => ?_) (fun h9 => by exfalso; omega)
  refine ok_iloadn (pc' := 57) i214_56 rfl rfl <| ok_iconst (pc' := 58) i214_57 rfl <| ?_
  refine ok_cge (pc1 := 78) (pc2 := 61) i214_58 (by omega) rfl rfl (fun h2 => ?_) (fun h9 => by exfalso; omega)
  refine ok_iloadn (pc' := 79) i214_78 rfl rfl <| ok_iconst (pc' := 80) i214_79 rfl <| ?_
  refine ok_cne (pc1 := 177) (pc2 := 83) i214_80 (by omega) rfl rfl (fun h9 => by exfalso; omega) (fun h3 => ?_)
  refine ok_iload (pc' := 85) i214_83 rfl rfl <| ok_aloadn (pc' := 86) i214_85 rfl rfl <| ok_getfi (v := (q 0)) (pc' := 89) i214_86 o214 gi13_231 (hY.gr.ky) (hY.mr.q0) rfl <| ok_iremp (v := (Int.tmod k (q 0))) (pc' := 90) i214_89 (by omega) rfl rfl <| ?_
  have z4 : 0 ≤ (Int.tmod k (q 0)) ∧ (Int.tmod k (q 0)) < (q 0) := tmod_lt (by omega) (by omega)
  refine ok_istore (pc' := 92) (ls' := [aR O, aR 101, aR 100, aI w, aI v, aI k, aI (Int.tmod k (q 0)), aU]) i214_90 (bt rfl) rfl rfl <| ok_aloadn (pc' := 93) i214_92 rfl rfl <| ok_getfi (v := (s 3)) (pc' := 96) i214_93 o214 gi13_152 (hY.gr.ky) ((Yd.n3 hY)) rfl <| ok_bipush (v := 40) (pc' := 98) i214_96 rfl rfl <| ?_
  refine ok_cne (pc1 := 122) (pc2 := 101) i214_98 (by omega) rfl rfl (fun h5 => ?_) (fun h9 => by exfalso; omega)
  refine ok_aloadn (pc' := 123) i214_122 rfl rfl <| ok_iload (pc' := 125) i214_123 rfl rfl <| ?_
  refine ok_cc i214_125 rfl (cl_v o214 m13_238 na196 rfl rfl (bt rfl) (bt rfl) rfl (by rw [hY.gr.ky, o196])) ln196 (pd196 (aR 101) (aI (Int.tmod k (q 0)))) <| (Ok.deep (t196 (x1 := (Int.tmod k (q 0))) hY hV (Or.inl hW.2.2) ⟨by omega, by omega⟩ (by omega)) (by omega)).mono (fun o9 g6c M6c p6c => ?_)
  obtain ⟨rfl, A6, hA6, hYk6, e6k⟩ := p6c
  have hWk6 := CW.fy hW e6k
  have fk6 := Fr.trans f0 (fa_y e6k)
  obtain ⟨t, ht⟩ : ∃ t : Int → Int, t = addT s (Int.tmod k (q 0)) (q (2 + (Int.tmod k (q 0)))) := ⟨_, rfl⟩
  rw [← ht] at hYk6
  have ht3 : t 3 = s 3 + 1 := by rw [ht]; exact upI_eq
  have ht6 : t 6 = s 6 := by rw [ht]; exact add_6 ⟨by omega, by omega⟩
  refine kt_0 (pc' := 128) rfl <| ok_aloadn (pc' := 129) i214_128 rfl rfl <| ok_getfr (r := 110) (pc' := 132) i214_129 o214 gr13_164 (hYk6.gr.ky) (hYk6.gr.r7) rfl <| ok_iconst (pc' := 133) i214_132 rfl <| ok_dup2 (pc' := 134) i214_133 ⟨rfl, rfl⟩ rfl <| ok_iaload (v := (t 6)) (pc' := 135) i214_134 (hYk6.gr.ka) (by decide) (hYk6.gr.la) (by decide) ((Yd.acz hYk6 (i := 0) (z := 6) (by omega) (by omega) (by omega))) rfl <| ok_aloadn (pc' := 136) i214_135 rfl rfl <| ok_getfr (r := 104) (pc' := 139) i214_136 o214 gr13_241 (hYk6.gr.ky) (hYk6.gr.r1) rfl <| ?_
  refine ok_iload (pc' := 141) i214_139 rfl rfl <| ok_aaload (r := (A6.K (Int.tmod k (q 0)))) (pc' := 142) i214_141 (hYk6.gr.k4) (by decide) (hYk6.gr.l4) (by omega) ((hYk6.gr.kk (Int.tmod k (q 0)) (by omega) (by omega)).1) rfl <| ok_iconst (pc' := 143) i214_142 rfl <| ?_
  have z6 : 1 ≤ q (2 + (Int.tmod k (q 0))) ∧ q (2 + (Int.tmod k (q 0))) ≤ 200 := Q_2 hQ (by omega) (by omega)
  refine ok_iaload (v := (q (2 + (Int.tmod k (q 0))))) (pc' := 144) i214_143 ((hYk6.gr.kk (Int.tmod k (q 0)) (by omega) (by omega)).2.2.1) (by decide) ((hYk6.gr.kk (Int.tmod k (q 0)) (by omega) (by omega)).2.2.2) (by decide) ((hYk6.mr.kk (Int.tmod k (q 0)) (by omega) (by omega)).1) rfl <| ok_aloadn (pc' := 145) i214_144 rfl rfl <| ok_getfr (r := 104) (pc' := 148) i214_145 o214 gr13_241 (hYk6.gr.ky) (hYk6.gr.r1) rfl <| ok_iload (pc' := 150) i214_148 rfl rfl <| ok_aaload (r := (A6.K (Int.tmod k (q 0)))) (pc' := 151) i214_150 (hYk6.gr.k4) (by decide) (hYk6.gr.l4) (by omega) ((hYk6.gr.kk (Int.tmod k (q 0)) (by omega) (by omega)).1) rfl <| ok_iconst (pc' := 152) i214_151 rfl <| ?_
  have z7 : 1 ≤ q (6 + (Int.tmod k (q 0))) ∧ q (6 + (Int.tmod k (q 0))) ≤ 99 := Q_6 hQ (by omega) (by omega)
  refine ok_iaload (v := (q (6 + (Int.tmod k (q 0))))) (pc' := 153) i214_152 ((hYk6.gr.kk (Int.tmod k (q 0)) (by omega) (by omega)).2.2.1) (by decide) ((hYk6.gr.kk (Int.tmod k (q 0)) (by omega) (by omega)).2.2.2) (by decide) ((hYk6.mr.kk (Int.tmod k (q 0)) (by omega) (by omega)).2) rfl <| ok_imul (v := ((q (2 + (Int.tmod k (q 0)))) * (q (6 + (Int.tmod k (q 0)))))) (pc' := 154) i214_153 rfl rfl <| ok_iadd (v := ((t 6) + ((q (2 + (Int.tmod k (q 0)))) * (q (6 + (Int.tmod k (q 0))))))) (pc' := 155) i214_154 rfl rfl <| ok_iastore (pc' := 156) i214_155 (hYk6.gr.ka) (hYk6.gr.la) (by decide) rfl <| ?_
  have hY8 := Yd.waz hYk6 (i := 0) (z := 6) (v := ((t 6) + ((q (2 + (Int.tmod k (q 0)))) * (q (6 + (Int.tmod k (q 0))))))) (by omega) (by omega) (by omega)
  have e9 := frw fk6 (fa_ge (by omega)) hY8
  have n10 : (upI t 6 ((t 6) + ((q (2 + (Int.tmod k (q 0)))) * (q (6 + (Int.tmod k (q 0))))))) 3 = t 3 := upI_ne (by omega)
  have n11 : (upI t 6 ((t 6) + ((q (2 + (Int.tmod k (q 0)))) * (q (6 + (Int.tmod k (q 0))))))) 4 = t 4 := upI_ne (by omega)
  have n12 : (upI t 6 ((t 6) + ((q (2 + (Int.tmod k (q 0)))) * (q (6 + (Int.tmod k (q 0))))))) 5 = t 5 := upI_ne (by omega)
  have hWw13 := CW.fy hWk6 (frw (Fr.rfl (F := FY O)) (fy_110 hYk6.gr.o) hY8)
  refine ok_aloadn (pc' := 157) i214_156 rfl rfl <| ok_iload (pc' := 159) i214_157 rfl rfl <| ?_
  refine ok_cc i214_159 rfl (cl_v o214 m13_95 na147 rfl rfl (bt rfl) (bt rfl) rfl (by rw [(ShYard_k0 hWw13.1.y), o147])) ln147 (pd147 (aR O) (aI (Int.tmod k (q 0)))) <| (Ok.deep (y147 (x1 := (Int.tmod k (q 0))) hWw13.1 hWw13.2.1 ⟨by omega, by omega⟩ (by omega)) (by omega)).mono (fun o9 g7c M7c p7c => ?_)
  obtain ⟨rfl, eg7, hMc7, hWr7⟩ := p7c
  rw [eg7]
  have hYk7 := Yd.fc hY8 (Fr.wr hWr7)
  have hWk7 := CW.ch hWw13 hMc7
  have fk7 := Fr.trans e9 (fa_c hY8.gr.o hWr7)
  refine kt_v (pc' := 162) rfl <| ok_aloadn (pc' := 163) i214_162 rfl rfl <| ok_getfi (v := (t 3)) (pc' := 166) i214_163 o214 gi13_152 (hYk7.gr.ky) ((Eq.trans (Yd.n3 hYk7) (by rw [upI_ne (by omega)]))) rfl <| ok_iconst (pc' := 167) i214_166 rfl <| ok_isub (v := ((t 3) - 1)) (pc' := 168) i214_167 rfl rfl <| ?_
  refine ok_cne (pc1 := 175) (pc2 := 171) i214_168 (by omega) rfl rfl (fun h9 => by exfalso; omega) (fun h14 => ?_)
  refine ok_iconst (pc' := 172) i214_171 rfl <| ok_goto (pc' := 176) i214_172 rfl <| ok_iretz i214_176 rt214 (by decide) <| ?_
  have hz : ∀ j : Int, (upI t 6 ((t 6) + ((q (2 + (Int.tmod k (q 0)))) * (q (6 + (Int.tmod k (q 0))))))) j = addT (upI s 6 (s 6 + (q (2 + (Int.tmod k (q 0))) * q (6 + (Int.tmod k (q 0)))))) (Int.tmod k (q 0)) (q (2 + (Int.tmod k (q 0)))) j := fun j => by rw [ht6, ht]; exact add_acc ⟨by omega, by omega⟩ j
  have hz5 : addT (upI s 6 (s 6 + (q (2 + (Int.tmod k (q 0))) * q (6 + (Int.tmod k (q 0)))))) (Int.tmod k (q 0)) (q (2 + (Int.tmod k (q 0)))) 542 = 0 ∧ addT (upI s 6 (s 6 + (q (2 + (Int.tmod k (q 0))) * q (6 + (Int.tmod k (q 0)))))) (Int.tmod k (q 0)) (q (2 + (Int.tmod k (q 0)))) 3 ≤ 40 := by
    rw [← hz 542, ← hz 3, upI_ne (by omega), upI_ne (by omega), ht3, ht, (add_keep ⟨by omega, by omega⟩).1]; exact ⟨h542, by omega⟩
  exact hret _ _ _ _ (Yd.ext hYk7 hz) (CW.up hWk7 ⟨by omega, by omega⟩) hz5.1 hz5.2 (Fr.w fk7 (by omega) (by omega))
theorem w214_ord0 {g : AG} {M : AM} {O : Nat} {A : YA} {s q : Int → Int} {b : Int} {d : Nat} {w v k : Int} {Q : AO → AG → AM → Prop} (hY : Yd g M O A s q) (hW : CW g M O b q s) (hv : 1 ≤ v ∧ v ≤ 7) (hk : 0 ≤ k ∧ k ≤ 15) (h542 : s 542 = 0) (h40 : s 3 ≤ 40) (hb : b + 6 ≤ 200) (hw : 4 < w ∧ w < 7) (h4 : s 4 = 16) (hret : ∀ (g1 : AG) (M1 : AM) (A1 : YA) (s1 : Int → Int), Yd g1 M1 O A1 s1 q → CW g1 M1 O (b + 6) q s1 → s1 542 = 0 → s1 3 ≤ 40 → Fr FA 8800 198800 g M g1 M1 → Q (.inl (some (aI 1))) g1 M1) : Ok (d + 12) 214 26 [aR O, aR 101, aR 100, aI w, aI v, aI k, aU, aU] [] g M Q := by
  have hV := hW.2.1.v
  have hQ := V_q hV
  have y3 := V_3 hV
  have y4 := V_4 hV
  have y5 := V_5 hV
  have yq0 := Q_0 hQ
  have yq1 := Q_1 hQ
  have y0 := hV.2.1
  have yb := V_b hV
  have y1 := V_1 hV
  have y2 := V_2 hV
  have f0 : Fr FA 0 0 g M g M := Fr.rfl
  refine ok_iloadn (pc' := 27) i214_26 rfl rfl <| ok_iconst (pc' := 28) i214_27 rfl <| ?_
  refine ok_cge (pc1 := 56) (pc2 := 31) i214_28 (by omega) rfl rfl (fun h1 => ?_) (fun h9 => by exfalso; omega)
  refine ok_iloadn (pc' := 57) i214_56 rfl rfl <| ok_iconst (pc' := 58) i214_57 rfl <| ?_
  refine ok_cge (pc1 := 78) (pc2 := 61) i214_58 (by omega) rfl rfl (fun h2 => ?_) (fun h9 => by exfalso; omega)
  refine ok_iloadn (pc' := 79) i214_78 rfl rfl <| ok_iconst (pc' := 80) i214_79 rfl <| ?_
  refine ok_cne (pc1 := 177) (pc2 := 83) i214_80 (by omega) rfl rfl (fun h3 => ?_) (fun h9 => by exfalso; omega)
  refine ok_iloadn (pc' := 178) i214_177 rfl rfl <| ok_bipush (v := 7) (pc' := 180) i214_178 rfl rfl <| ?_
  refine ok_cge (pc1 := 272) (pc2 := 183) i214_180 (by omega) rfl rfl (fun h9 => by exfalso; omega) (fun h4 => ?_)
  refine ok_aloadn (pc' := 184) i214_183 rfl rfl <| ok_getfi (v := (s 4)) (pc' := 187) i214_184 o214 gi13_155 (hY.gr.ky) ((Yd.n4 hY)) rfl <| ok_bipush (v := 16) (pc' := 189) i214_187 rfl rfl <| ?_
  refine ok_cne (pc1 := 213) (pc2 := 192) i214_189 (by omega) rfl rfl (fun h9 => by exfalso; omega) (fun h5 => ?_)
  refine ok_aloadn (pc' := 193) i214_192 rfl rfl <| ok_bipush (v := 21) (pc' := 195) i214_193 rfl rfl <| ok_iload (pc' := 197) i214_195 rfl rfl <| ok_iconst (pc' := 198) i214_197 rfl <| ok_iconst (pc' := 199) i214_198 rfl <| ok_iconst (pc' := 200) i214_199 rfl <| ?_
  refine ok_cc i214_200 rfl (cl_s o214 m13_234 na211 rfl rfl (bt rfl) (bt rfl) rfl) ln211 (pd211 (aR O) (aI 21) (aI v) (aI 1) (aI 0) (aI 0)) <| (Ok.deep (t211_3 (k212_21 (lev := 2) (ShYard_k0 hW.1.y) (by omega) (y148_x0 (Y := O) (P := O + 38) (A := O + 49) (V := O + 73) (T := O + 74) (K := O + 100) (H := O + 102) (X := O + 346) (x1 := v) (x2 := 1) (x3 := 0) (x4 := 0) hW.1.y hW.1.w hW.1.p hW.1.s hW.2.1.p hW.2.1.s hQ hV (by omega) hW.2.1.l))) (by omega)).mono (fun o9 g8t M8t p8t => ?_)
  obtain ⟨rfl, eg8t, em8t⟩ := p8t
  have et8 := Fr.xx eg8t em8t
  have hYc6 := Yd.f0 hY et8
  have hWc6 := CW.f0 hW et8
  have f6 := Fr.trans f0 (Fr.of0 et8)
  refine kt_v (pc' := 203) rfl <| ok_iconst (pc' := 204) i214_203 rfl <| ok_kc0 (pc1 := 211) (pc2 := 207) i214_204 (by decide) rfl rfl <| ok_iconst (pc' := 208) i214_207 rfl <| ok_goto (pc' := 212) i214_208 rfl <| ok_iretz i214_212 rt214 (by decide) <| ?_
  exact hret _ _ _ _ hYc6 (CW.up hWc6 ⟨by omega, by omega⟩) (h542) (h40) (Fr.w f6 (by omega) (by omega))
theorem w214_ord1 {g : AG} {M : AM} {O : Nat} {A : YA} {s q : Int → Int} {b : Int} {d : Nat} {w v k : Int} {Q : AO → AG → AM → Prop} (hY : Yd g M O A s q) (hW : CW g M O b q s) (hv : 1 ≤ v ∧ v ≤ 7) (hk : 0 ≤ k ∧ k ≤ 15) (h542 : s 542 = 0) (h40 : s 3 ≤ 40) (hb : b + 6 ≤ 200) (hw : 4 < w ∧ w < 7) (h4 : s 4 < 16) (hret : ∀ (g1 : AG) (M1 : AM) (A1 : YA) (s1 : Int → Int), Yd g1 M1 O A1 s1 q → CW g1 M1 O (b + 6) q s1 → s1 542 = 0 → s1 3 ≤ 40 → Fr FA 8800 198800 g M g1 M1 → Q (.inl (some (aI 1))) g1 M1) : Ok (d + 12) 214 26 [aR O, aR 101, aR 100, aI w, aI v, aI k, aU, aU] [] g M Q := by
  have hV := hW.2.1.v
  have hQ := V_q hV
  have y3 := V_3 hV
  have y4 := V_4 hV
  have y5 := V_5 hV
  have yq0 := Q_0 hQ
  have yq1 := Q_1 hQ
  have y0 := hV.2.1
  have yb := V_b hV
  have y1 := V_1 hV
  have y2 := V_2 hV
  have f0 : Fr FA 0 0 g M g M := Fr.rfl
  refine ok_iloadn (pc' := 27) i214_26 rfl rfl <| ok_iconst (pc' := 28) i214_27 rfl <| ?_
  refine ok_cge (pc1 := 56) (pc2 := 31) i214_28 (by omega) rfl rfl (fun h1 => ?_) (fun h9 => by exfalso; omega)
  refine ok_iloadn (pc' := 57) i214_56 rfl rfl <| ok_iconst (pc' := 58) i214_57 rfl <| ?_
  refine ok_cge (pc1 := 78) (pc2 := 61) i214_58 (by omega) rfl rfl (fun h2 => ?_) (fun h9 => by exfalso; omega)
  refine ok_iloadn (pc' := 79) i214_78 rfl rfl <| ok_iconst (pc' := 80) i214_79 rfl <| ?_
  refine ok_cne (pc1 := 177) (pc2 := 83) i214_80 (by omega) rfl rfl (fun h3 => ?_) (fun h9 => by exfalso; omega)
  refine ok_iloadn (pc' := 178) i214_177 rfl rfl <| ok_bipush (v := 7) (pc' := 180) i214_178 rfl rfl <| ?_
  refine ok_cge (pc1 := 272) (pc2 := 183) i214_180 (by omega) rfl rfl (fun h9 => by exfalso; omega) (fun h4 => ?_)
  refine ok_aloadn (pc' := 184) i214_183 rfl rfl <| ok_getfi (v := (s 4)) (pc' := 187) i214_184 o214 gi13_155 (hY.gr.ky) ((Yd.n4 hY)) rfl <| ok_bipush (v := 16) (pc' := 189) i214_187 rfl rfl <| ?_
  refine ok_cne (pc1 := 213) (pc2 := 192) i214_189 (by omega) rfl rfl (fun h5 => ?_) (fun h9 => by exfalso; omega)
  refine ok_aloadn (pc' := 214) i214_213 rfl rfl <| ok_iload (pc' := 216) i214_214 rfl rfl <| ok_iconst (pc' := 217) i214_216 rfl <| ok_iload (pc' := 219) i214_217 rfl rfl <| ok_iconst (pc' := 220) i214_219 rfl <| ok_iremp (v := (Int.tmod k 3)) (pc' := 221) i214_220 (by omega) rfl rfl <| ?_
  have z6 : 0 ≤ (Int.tmod k 3) ∧ (Int.tmod k 3) ≤ 2 := tmod_f 3 (by omega) (by decide)
  refine ok_iadd (v := (1 + (Int.tmod k 3))) (pc' := 222) i214_221 rfl rfl <| ok_iload (pc' := 224) i214_222 rfl rfl <| ok_iload (pc' := 226) i214_224 rfl rfl <| ok_iconst (pc' := 227) i214_226 rfl <| ok_iremp (v := (Int.tmod k 4)) (pc' := 228) i214_227 (by omega) rfl rfl <| ?_
  have z7 : 0 ≤ (Int.tmod k 4) ∧ (Int.tmod k 4) ≤ 3 := tmod_f 4 (by omega) (by decide)
  refine ok_aloadn (pc' := 229) i214_228 rfl rfl <| ?_
  have z8 : 0 ≤ s 0 ∧ s 0 ≤ 1000000 := V_0 hV
  refine ok_getfi (v := (s 0)) (pc' := 232) i214_229 o214 gi13_141 (hY.gr.ky) ((Yd.n0 hY)) rfl <| ok_iconst (pc' := 233) i214_232 rfl <| ok_idivp (v := (Int.tdiv (s 0) 2)) (pc' := 234) i214_233 (by omega) rfl rfl <| ?_
  have z9 : 2 * (Int.tdiv (s 0) 2) ≤ (s 0) ∧ (s 0) ≤ 2 * (Int.tdiv (s 0) 2) + 1 ∧ 0 ≤ (Int.tdiv (s 0) 2) := tdiv_f 2 (by omega) (by decide)
  refine ok_iadd (v := ((Int.tmod k 4) + (Int.tdiv (s 0) 2))) (pc' := 235) i214_234 rfl rfl <| ?_
  refine ok_cc i214_235 rfl (cl_v o214 m13_98 na148 rfl rfl (bt rfl) (bt rfl) rfl (by rw [(ShYard_k0 hW.1.y), o148])) ln148 (pd148 (aR O) (aI v) (aI (1 + (Int.tmod k 3))) (aI k) (aI ((Int.tmod k 4) + (Int.tdiv (s 0) 2)))) <| (Ok.deep (y148 (x1 := v) (x2 := (1 + (Int.tmod k 3))) (x3 := k) (x4 := ((Int.tmod k 4) + (Int.tdiv (s 0) 2))) hW.1 hW.2.1 ⟨by omega, by omega⟩ ⟨by omega, by omega⟩ ⟨by omega, by omega⟩ ⟨by omega, by omega⟩ (by omega)) (by omega)).mono (fun o9 g9c M9c p9c => ?_)
  obtain ⟨rfl, eg9, hMc9, hWr9⟩ := p9c
  rw [eg9]
  have hYk9 := Yd.fc hY (Fr.wr hWr9)
  have hWk9 := CW.ch hW hMc9
  have fk9 := Fr.trans f0 (fa_c hY.gr.o hWr9)
  refine kt_v (pc' := 238) rfl <| ok_aloadn (pc' := 239) i214_238 rfl rfl <| ok_iload (pc' := 241) i214_239 rfl rfl <| ok_iconst (pc' := 242) i214_241 rfl <| ok_iload (pc' := 244) i214_242 rfl rfl <| ok_iconst (pc' := 245) i214_244 rfl <| ok_iremp (v := (Int.tmod k 3)) (pc' := 246) i214_245 (by omega) rfl rfl <| ok_iadd (v := (1 + (Int.tmod k 3))) (pc' := 247) i214_246 rfl rfl <| ?_
  refine ok_iload (pc' := 249) i214_247 rfl rfl <| ok_iload (pc' := 251) i214_249 rfl rfl <| ok_iconst (pc' := 252) i214_251 rfl <| ok_iremp (v := (Int.tmod k 4)) (pc' := 253) i214_252 (by omega) rfl rfl <| ok_aloadn (pc' := 254) i214_253 rfl rfl <| ok_getfi (v := (s 0)) (pc' := 257) i214_254 o214 gi13_141 (hYk9.gr.ky) ((Yd.n0 hYk9)) rfl <| ok_iconst (pc' := 258) i214_257 rfl <| ok_idivp (v := (Int.tdiv (s 0) 2)) (pc' := 259) i214_258 (by omega) rfl rfl <| ?_
  refine ok_iadd (v := ((Int.tmod k 4) + (Int.tdiv (s 0) 2))) (pc' := 260) i214_259 rfl rfl <| ?_
  refine ok_cc i214_260 rfl (cl_v o214 m13_245 na197 rfl rfl (bt rfl) (bt rfl) rfl (by rw [hYk9.gr.ky, o197])) ln197 (pd197 (aR 101) (aI v) (aI (1 + (Int.tmod k 3))) (aI k) (aI ((Int.tmod k 4) + (Int.tdiv (s 0) 2)))) <| (Ok.deep (t197 (x1 := v) (x2 := (1 + (Int.tmod k 3))) (x3 := k) (x4 := ((Int.tmod k 4) + (Int.tdiv (s 0) 2))) hYk9 hV (Or.inl hWk9.2.2) (by omega) ⟨by omega, by omega⟩ ⟨by omega, by omega⟩ ⟨by omega, by omega⟩ ⟨by omega, by omega⟩) (by omega)).mono (fun o9 g10c M10c p10c => ?_)
  obtain ⟨rfl, A10, hA10, hB10, hYk10, e10k⟩ := p10c
  have hWk10 := CW.fy hWk9 e10k
  have fk10 := Fr.trans fk9 (fa_y e10k)
  refine kt_v (pc' := 263) rfl <| ok_cnes (pc1 := 270) (pc2 := 266) i214_263 rfl rfl <| ok_iconst (pc' := 267) i214_266 rfl <| ok_goto (pc' := 271) i214_267 rfl <| ok_iretz i214_271 rt214 (by decide) <| ?_
  exact hret _ _ _ _ hYk10 (CW.up hWk10 ⟨by omega, by omega⟩) ((ord_keep hV (by omega) ⟨by omega, by omega⟩ ⟨by omega, by omega⟩ ⟨by omega, by omega⟩ ⟨by omega, by omega⟩).1.trans h542) (by rw [(ord_keep hV (by omega) ⟨by omega, by omega⟩ ⟨by omega, by omega⟩ ⟨by omega, by omega⟩ ⟨by omega, by omega⟩).2]; exact h40) (Fr.w fk10 (by omega) (by omega))
theorem w214_can0 {g : AG} {M : AM} {O : Nat} {A : YA} {s q : Int → Int} {b : Int} {d : Nat} {w v k : Int} {Q : AO → AG → AM → Prop} (hY : Yd g M O A s q) (hW : CW g M O b q s) (hv : 1 ≤ v ∧ v ≤ 7) (hk : 0 ≤ k ∧ k ≤ 15) (h542 : s 542 = 0) (h40 : s 3 ≤ 40) (hb : b + 6 ≤ 200) (hw : w = 7) (h4 : s 4 = 0) (hret : ∀ (g1 : AG) (M1 : AM) (A1 : YA) (s1 : Int → Int), Yd g1 M1 O A1 s1 q → CW g1 M1 O (b + 6) q s1 → s1 542 = 0 → s1 3 ≤ 40 → Fr FA 8800 198800 g M g1 M1 → Q (.inl (some (aI 1))) g1 M1) : Ok (d + 12) 214 26 [aR O, aR 101, aR 100, aI w, aI v, aI k, aU, aU] [] g M Q := by
  have hV := hW.2.1.v
  have hQ := V_q hV
  have y3 := V_3 hV
  have y4 := V_4 hV
  have y5 := V_5 hV
  have yq0 := Q_0 hQ
  have yq1 := Q_1 hQ
  have y0 := hV.2.1
  have yb := V_b hV
  have y1 := V_1 hV
  have y2 := V_2 hV
  have f0 : Fr FA 0 0 g M g M := Fr.rfl
  refine ok_iloadn (pc' := 27) i214_26 rfl rfl <| ok_iconst (pc' := 28) i214_27 rfl <| ?_
  refine ok_cge (pc1 := 56) (pc2 := 31) i214_28 (by omega) rfl rfl (fun h1 => ?_) (fun h9 => by exfalso; omega)
  refine ok_iloadn (pc' := 57) i214_56 rfl rfl <| ok_iconst (pc' := 58) i214_57 rfl <| ?_
  refine ok_cge (pc1 := 78) (pc2 := 61) i214_58 (by omega) rfl rfl (fun h2 => ?_) (fun h9 => by exfalso; omega)
  refine ok_iloadn (pc' := 79) i214_78 rfl rfl <| ok_iconst (pc' := 80) i214_79 rfl <| ?_
  refine ok_cne (pc1 := 177) (pc2 := 83) i214_80 (by omega) rfl rfl (fun h3 => ?_) (fun h9 => by exfalso; omega)
  refine ok_iloadn (pc' := 178) i214_177 rfl rfl <| ok_bipush (v := 7) (pc' := 180) i214_178 rfl rfl <| ?_
  refine ok_cge (pc1 := 272) (pc2 := 183) i214_180 (by omega) rfl rfl (fun h4 => ?_) (fun h9 => by exfalso; omega)
  refine ok_iloadn (pc' := 273) i214_272 rfl rfl <| ok_bipush (v := 7) (pc' := 275) i214_273 rfl rfl <| ?_
  refine ok_cne (pc1 := 387) (pc2 := 278) i214_275 (by omega) rfl rfl (fun h9 => by exfalso; omega) (fun h5 => ?_)
  refine ok_aloadn (pc' := 279) i214_278 rfl rfl <| ok_getfi (v := (s 4)) (pc' := 282) i214_279 o214 gi13_155 (hY.gr.ky) ((Yd.n4 hY)) rfl <| ?_
  refine ok_zne (pc1 := 305) (pc2 := 285) i214_282 (by omega) rfl rfl (fun h9 => by exfalso; omega) (fun h6 => ?_)
  refine ok_aloadn (pc' := 286) i214_285 rfl rfl <| ok_bipush (v := 22) (pc' := 288) i214_286 rfl rfl <| ok_iconst (pc' := 289) i214_288 rfl <| ok_iconst (pc' := 290) i214_289 rfl <| ok_iconst (pc' := 291) i214_290 rfl <| ok_iconst (pc' := 292) i214_291 rfl <| ?_
  refine ok_cc i214_292 rfl (cl_s o214 m13_234 na211 rfl rfl (bt rfl) (bt rfl) rfl) ln211 (pd211 (aR O) (aI 22) (aI 0) (aI 0) (aI 0) (aI 0)) <| (Ok.deep (t211_2 (k212_22 (lev := 2) (ShYard_k0 hW.1.y) (by omega) (y149_x0 (Y := O) (P := O + 38) (A := O + 49) (V := O + 73) (T := O + 74) (K := O + 100) (H := O + 102) (X := O + 346) (x1 := 0) hW.1.y hW.1.w hW.1.p hW.1.s hW.2.1.p hW.2.1.s hQ hV ⟨by omega, by omega⟩ hW.2.1.l))) (by omega)).mono (fun o9 g11t M11t p11t => ?_)
  obtain ⟨rfl, eg11t, em11t⟩ := p11t
  have et11 := Fr.xx eg11t em11t
  have hYc7 := Yd.f0 hY et11
  have hWc7 := CW.f0 hW et11
  have f7 := Fr.trans f0 (Fr.of0 et11)
  refine kt_v (pc' := 295) rfl <| ok_iconst (pc' := 296) i214_295 rfl <| ok_kc0 (pc1 := 303) (pc2 := 299) i214_296 (by decide) rfl rfl <| ok_iconst (pc' := 300) i214_299 rfl <| ok_goto (pc' := 304) i214_300 rfl <| ok_iretz i214_304 rt214 (by decide) <| ?_
  exact hret _ _ _ _ hYc7 (CW.up hWc7 ⟨by omega, by omega⟩) (h542) (h40) (Fr.w f7 (by omega) (by omega))
theorem w214_can1 {g : AG} {M : AM} {O : Nat} {A : YA} {s q : Int → Int} {b : Int} {d : Nat} {w v k : Int} {Q : AO → AG → AM → Prop} (hY : Yd g M O A s q) (hW : CW g M O b q s) (hv : 1 ≤ v ∧ v ≤ 7) (hk : 0 ≤ k ∧ k ≤ 15) (h542 : s 542 = 0) (h40 : s 3 ≤ 40) (hb : b + 6 ≤ 200) (hw : w = 7) (h4 : 1 ≤ s 4) (hl : s ((414 + (8 * (Int.tmod k (s 4)))) + 4) = 0) (hret : ∀ (g1 : AG) (M1 : AM) (A1 : YA) (s1 : Int → Int), Yd g1 M1 O A1 s1 q → CW g1 M1 O (b + 6) q s1 → s1 542 = 0 → s1 3 ≤ 40 → Fr FA 8800 198800 g M g1 M1 → Q (.inl (some (aI 1))) g1 M1) : Ok (d + 12) 214 26 [aR O, aR 101, aR 100, aI w, aI v, aI k, aU, aU] [] g M Q := by
  have hV := hW.2.1.v
  have hQ := V_q hV
  have y3 := V_3 hV
  have y4 := V_4 hV
  have y5 := V_5 hV
  have yq0 := Q_0 hQ
  have yq1 := Q_1 hQ
  have y0 := hV.2.1
  have yb := V_b hV
  have y1 := V_1 hV
  have y2 := V_2 hV
  have f0 : Fr FA 0 0 g M g M := Fr.rfl
  refine ok_iloadn (pc' := 27) i214_26 rfl rfl <| ok_iconst (pc' := 28) i214_27 rfl <| ?_
  refine ok_cge (pc1 := 56) (pc2 := 31) i214_28 (by omega) rfl rfl (fun h1 => ?_) (fun h9 => by exfalso; omega)
  refine ok_iloadn (pc' := 57) i214_56 rfl rfl <| ok_iconst (pc' := 58) i214_57 rfl <| ?_
  refine ok_cge (pc1 := 78) (pc2 := 61) i214_58 (by omega) rfl rfl (fun h2 => ?_) (fun h9 => by exfalso; omega)
  refine ok_iloadn (pc' := 79) i214_78 rfl rfl <| ok_iconst (pc' := 80) i214_79 rfl <| ?_
  refine ok_cne (pc1 := 177) (pc2 := 83) i214_80 (by omega) rfl rfl (fun h3 => ?_) (fun h9 => by exfalso; omega)
  refine ok_iloadn (pc' := 178) i214_177 rfl rfl <| ok_bipush (v := 7) (pc' := 180) i214_178 rfl rfl <| ?_
  refine ok_cge (pc1 := 272) (pc2 := 183) i214_180 (by omega) rfl rfl (fun h4 => ?_) (fun h9 => by exfalso; omega)
  refine ok_iloadn (pc' := 273) i214_272 rfl rfl <| ok_bipush (v := 7) (pc' := 275) i214_273 rfl rfl <| ?_
  refine ok_cne (pc1 := 387) (pc2 := 278) i214_275 (by omega) rfl rfl (fun h9 => by exfalso; omega) (fun h5 => ?_)
  refine ok_aloadn (pc' := 279) i214_278 rfl rfl <| ok_getfi (v := (s 4)) (pc' := 282) i214_279 o214 gi13_155 (hY.gr.ky) ((Yd.n4 hY)) rfl <| ?_
  refine ok_zne (pc1 := 305) (pc2 := 285) i214_282 (by omega) rfl rfl (fun h6 => ?_) (fun h9 => by exfalso; omega)
  refine ok_aloadn (pc' := 306) i214_305 rfl rfl <| ok_getfr (r := 108) (pc' := 309) i214_306 o214 gr13_188 (hY.gr.ky) (hY.gr.r5) rfl <| ok_iload (pc' := 311) i214_309 rfl rfl <| ok_aloadn (pc' := 312) i214_311 rfl rfl <| ok_getfi (v := (s 4)) (pc' := 315) i214_312 o214 gi13_155 (hY.gr.ky) ((Yd.n4 hY)) rfl <| ok_iremp (v := (Int.tmod k (s 4))) (pc' := 316) i214_315 (by omega) rfl rfl <| ?_
  have z7 : 0 ≤ (Int.tmod k (s 4)) ∧ (Int.tmod k (s 4)) < (s 4) := tmod_lt (by omega) (by omega)
  refine ok_aaload (r := (A.D (Int.tmod k (s 4)))) (pc' := 317) i214_316 (hY.gr.k8) (by decide) (hY.gr.l8) (by omega) ((hY.gr.dd (Int.tmod k (s 4)) (by omega) (by omega)).1) rfl <| ok_astore (pc' := 319) (ls' := [aR O, aR 101, aR 100, aI w, aI v, aI k, aR (A.D (Int.tmod k (s 4))), aU]) i214_317 (bt rfl) rfl rfl <| ok_aload (pc' := 321) i214_319 rfl rfl <| ?_
  have z8 : 0 ≤ s ((414 + (8 * (Int.tmod k (s 4)))) + 4) ∧ s ((414 + (8 * (Int.tmod k (s 4)))) + 4) ≤ 9 := V_o4 hV (by omega) (by omega)
  refine ok_getfi (v := (s ((414 + (8 * (Int.tmod k (s 4)))) + 4))) (pc' := 324) i214_321 o214 gi13_204 ((hY.gr.dd (Int.tmod k (s 4)) (by omega) (by omega)).2.2) ((Yd.d5 hY (k := (Int.tmod k (s 4))) (by omega) (by omega))) rfl <| ok_istore (pc' := 326) (ls' := [aR O, aR 101, aR 100, aI w, aI v, aI k, aR (A.D (Int.tmod k (s 4))), aI (s ((414 + (8 * (Int.tmod k (s 4)))) + 4))]) i214_324 (bt rfl) rfl rfl <| ok_iload (pc' := 328) i214_326 rfl rfl <| ?_
  refine ok_zne (pc1 := 355) (pc2 := 331) i214_328 (by omega) rfl rfl (fun h9 => by exfalso; omega) (fun h9 => ?_)
  refine ok_aloadn (pc' := 332) i214_331 rfl rfl <| ok_bipush (v := 22) (pc' := 334) i214_332 rfl rfl <| ok_aload (pc' := 336) i214_334 rfl rfl <| ok_getfi (v := (Int.tmod k (s 4))) (pc' := 339) i214_336 o214 gi13_247 ((hY.gr.dd (Int.tmod k (s 4)) (by omega) (by omega)).2.2) ((hY.mr.dn (Int.tmod k (s 4)) (by omega) (by omega))) rfl <| ok_iconst (pc' := 340) i214_339 rfl <| ok_iconst (pc' := 341) i214_340 rfl <| ok_iconst (pc' := 342) i214_341 rfl <| ?_
  refine ok_cc i214_342 rfl (cl_s o214 m13_234 na211 rfl rfl (bt rfl) (bt rfl) rfl) ln211 (pd211 (aR O) (aI 22) (aI (Int.tmod k (s 4))) (aI 0) (aI 0) (aI 0)) <| (Ok.deep (t211_3 (k212_22 (lev := 2) (ShYard_k0 hW.1.y) (by omega) (y149_x1 (Y := O) (P := O + 38) (A := O + 49) (V := O + 73) (T := O + 74) (K := O + 100) (H := O + 102) (X := O + 346) (x1 := (Int.tmod k (s 4))) hW.1.y hW.1.w hW.1.p hW.1.s hW.2.1.p hW.2.1.s hQ hV ⟨by omega, by omega⟩ hl hW.2.1.l))) (by omega)).mono (fun o9 g12t M12t p12t => ?_)
  obtain ⟨rfl, eg12t, em12t⟩ := p12t
  have et12 := Fr.xx eg12t em12t
  have hYc10 := Yd.f0 hY et12
  have hWc10 := CW.f0 hW et12
  have f10 := Fr.trans f0 (Fr.of0 et12)
  refine kt_v (pc' := 345) rfl <| ok_iconst (pc' := 346) i214_345 rfl <| ok_kc0 (pc1 := 353) (pc2 := 349) i214_346 (by decide) rfl rfl <| ok_iconst (pc' := 350) i214_349 rfl <| ok_goto (pc' := 354) i214_350 rfl <| ok_iretz i214_354 rt214 (by decide) <| ?_
  exact hret _ _ _ _ hYc10 (CW.up hWc10 ⟨by omega, by omega⟩) (h542) (h40) (Fr.w f10 (by omega) (by omega))
theorem w214_can2 {g : AG} {M : AM} {O : Nat} {A : YA} {s q : Int → Int} {b : Int} {d : Nat} {w v k : Int} {Q : AO → AG → AM → Prop} (hY : Yd g M O A s q) (hW : CW g M O b q s) (hv : 1 ≤ v ∧ v ≤ 7) (hk : 0 ≤ k ∧ k ≤ 15) (h542 : s 542 = 0) (h40 : s 3 ≤ 40) (hb : b + 6 ≤ 200) (hw : w = 7) (h4 : 1 ≤ s 4) (hl : s ((414 + (8 * (Int.tmod k (s 4)))) + 4) ≠ 0) (hret : ∀ (g1 : AG) (M1 : AM) (A1 : YA) (s1 : Int → Int), Yd g1 M1 O A1 s1 q → CW g1 M1 O (b + 6) q s1 → s1 542 = 0 → s1 3 ≤ 40 → Fr FA 8800 198800 g M g1 M1 → Q (.inl (some (aI 1))) g1 M1) : Ok (d + 12) 214 26 [aR O, aR 101, aR 100, aI w, aI v, aI k, aU, aU] [] g M Q := by
  have hV := hW.2.1.v
  have hQ := V_q hV
  have y3 := V_3 hV
  have y4 := V_4 hV
  have y5 := V_5 hV
  have yq0 := Q_0 hQ
  have yq1 := Q_1 hQ
  have y0 := hV.2.1
  have yb := V_b hV
  have y1 := V_1 hV
  have y2 := V_2 hV
  have f0 : Fr FA 0 0 g M g M := Fr.rfl
  have hoi := tmod_lt (v := k) (m := s 4) (by omega) (by omega)
  have hl2 := V_o4 hV hoi.1 hoi.2
  have hl3 : 1 ≤ s ((414 + (8 * (Int.tmod k (s 4)))) + 4) := by omega
  refine ok_iloadn (pc' := 27) i214_26 rfl rfl <| ok_iconst (pc' := 28) i214_27 rfl <| ?_
  refine ok_cge (pc1 := 56) (pc2 := 31) i214_28 (by omega) rfl rfl (fun h1 => ?_) (fun h9 => by exfalso; omega)
  refine ok_iloadn (pc' := 57) i214_56 rfl rfl <| ok_iconst (pc' := 58) i214_57 rfl <| ?_
  refine ok_cge (pc1 := 78) (pc2 := 61) i214_58 (by omega) rfl rfl (fun h2 => ?_) (fun h9 => by exfalso; omega)
  refine ok_iloadn (pc' := 79) i214_78 rfl rfl <| ok_iconst (pc' := 80) i214_79 rfl <| ?_
  refine ok_cne (pc1 := 177) (pc2 := 83) i214_80 (by omega) rfl rfl (fun h3 => ?_) (fun h9 => by exfalso; omega)
  refine ok_iloadn (pc' := 178) i214_177 rfl rfl <| ok_bipush (v := 7) (pc' := 180) i214_178 rfl rfl <| ?_
  refine ok_cge (pc1 := 272) (pc2 := 183) i214_180 (by omega) rfl rfl (fun h4 => ?_) (fun h9 => by exfalso; omega)
  refine ok_iloadn (pc' := 273) i214_272 rfl rfl <| ok_bipush (v := 7) (pc' := 275) i214_273 rfl rfl <| ?_
  refine ok_cne (pc1 := 387) (pc2 := 278) i214_275 (by omega) rfl rfl (fun h9 => by exfalso; omega) (fun h5 => ?_)
  refine ok_aloadn (pc' := 279) i214_278 rfl rfl <| ok_getfi (v := (s 4)) (pc' := 282) i214_279 o214 gi13_155 (hY.gr.ky) ((Yd.n4 hY)) rfl <| ?_
  refine ok_zne (pc1 := 305) (pc2 := 285) i214_282 (by omega) rfl rfl (fun h6 => ?_) (fun h9 => by exfalso; omega)
  refine ok_aloadn (pc' := 306) i214_305 rfl rfl <| ok_getfr (r := 108) (pc' := 309) i214_306 o214 gr13_188 (hY.gr.ky) (hY.gr.r5) rfl <| ok_iload (pc' := 311) i214_309 rfl rfl <| ok_aloadn (pc' := 312) i214_311 rfl rfl <| ok_getfi (v := (s 4)) (pc' := 315) i214_312 o214 gi13_155 (hY.gr.ky) ((Yd.n4 hY)) rfl <| ok_iremp (v := (Int.tmod k (s 4))) (pc' := 316) i214_315 (by omega) rfl rfl <| ?_
  have z7 : 0 ≤ (Int.tmod k (s 4)) ∧ (Int.tmod k (s 4)) < (s 4) := tmod_lt (by omega) (by omega)
  refine ok_aaload (r := (A.D (Int.tmod k (s 4)))) (pc' := 317) i214_316 (hY.gr.k8) (by decide) (hY.gr.l8) (by omega) ((hY.gr.dd (Int.tmod k (s 4)) (by omega) (by omega)).1) rfl <| ok_astore (pc' := 319) (ls' := [aR O, aR 101, aR 100, aI w, aI v, aI k, aR (A.D (Int.tmod k (s 4))), aU]) i214_317 (bt rfl) rfl rfl <| ok_aload (pc' := 321) i214_319 rfl rfl <| ?_
  have z8 : 0 ≤ s ((414 + (8 * (Int.tmod k (s 4)))) + 4) ∧ s ((414 + (8 * (Int.tmod k (s 4)))) + 4) ≤ 9 := V_o4 hV (by omega) (by omega)
  refine ok_getfi (v := (s ((414 + (8 * (Int.tmod k (s 4)))) + 4))) (pc' := 324) i214_321 o214 gi13_204 ((hY.gr.dd (Int.tmod k (s 4)) (by omega) (by omega)).2.2) ((Yd.d5 hY (k := (Int.tmod k (s 4))) (by omega) (by omega))) rfl <| ok_istore (pc' := 326) (ls' := [aR O, aR 101, aR 100, aI w, aI v, aI k, aR (A.D (Int.tmod k (s 4))), aI (s ((414 + (8 * (Int.tmod k (s 4)))) + 4))]) i214_324 (bt rfl) rfl rfl <| ok_iload (pc' := 328) i214_326 rfl rfl <| ?_
  refine ok_zne (pc1 := 355) (pc2 := 331) i214_328 (by omega) rfl rfl (fun h9 => ?_) (fun h9 => by exfalso; omega)
  refine ok_aload (pc' := 357) i214_355 rfl rfl <| ok_iconst (pc' := 358) i214_357 rfl <| ok_putfj (kk := 5) (pc' := 361) i214_358 o214 pi214_204 ((hY.gr.dd (Int.tmod k (s 4)) (by omega) (by omega)).2.2) rfl rfl <| ?_
  have hY10 := Yd.wd5 hY (k := (Int.tmod k (s 4))) (v := 0) (by omega) (by omega)
  have e11 := frw f0 (hY.gr.dd (Int.tmod k (s 4)) (by omega) (by omega)).2.1.fa hY10
  have n12 : (upI s ((414 + (8 * (Int.tmod k (s 4)))) + 4) 0) 3 = s 3 := upI_ne (by omega)
  have n13 : (upI s ((414 + (8 * (Int.tmod k (s 4)))) + 4) 0) 4 = s 4 := upI_ne (by omega)
  have n14 : (upI s ((414 + (8 * (Int.tmod k (s 4)))) + 4) 0) 5 = s 5 := upI_ne (by omega)
  have hWw15 := CW.fy hW (frw (Fr.rfl (F := FY O)) (hY.gr.dd (Int.tmod k (s 4)) (by omega) (by omega)).2.1.fy hY10)
  refine ok_aload (pc' := 363) i214_361 rfl rfl <| ok_iconst (pc' := 364) i214_363 rfl <| ok_putzj (kk := 8) (pc' := 367) i214_364 o214 pz214_213 ((hY10.gr.dd (Int.tmod k (s 4)) (by omega) (by omega)).2.2) (by omega) rfl rfl <| ?_
  have hY16 := Yd.wd8 hY10 (k := (Int.tmod k (s 4))) (v := 1) (by omega) (by omega)
  have e17 := frw e11 (hY10.gr.dd (Int.tmod k (s 4)) (by omega) (by omega)).2.1.fa hY16
  have n18 : (upI (upI s ((414 + (8 * (Int.tmod k (s 4)))) + 4) 0) ((414 + (8 * (Int.tmod k (s 4)))) + 7) 1) 3 = s 3 := (upI_ne (by omega)).trans n12
  have n19 : (upI (upI s ((414 + (8 * (Int.tmod k (s 4)))) + 4) 0) ((414 + (8 * (Int.tmod k (s 4)))) + 7) 1) 4 = s 4 := (upI_ne (by omega)).trans n13
  have n20 : (upI (upI s ((414 + (8 * (Int.tmod k (s 4)))) + 4) 0) ((414 + (8 * (Int.tmod k (s 4)))) + 7) 1) 5 = s 5 := (upI_ne (by omega)).trans n14
  have hWw21 := CW.fy hWw15 (frw (Fr.rfl (F := FY O)) (hY10.gr.dd (Int.tmod k (s 4)) (by omega) (by omega)).2.1.fy hY16)
  refine ok_aloadn (pc' := 368) i214_367 rfl rfl <| ok_aload (pc' := 370) i214_368 rfl rfl <| ok_getfi (v := (Int.tmod k (s 4))) (pc' := 373) i214_370 o214 gi13_247 ((hY16.gr.dd (Int.tmod k (s 4)) (by omega) (by omega)).2.2) ((hY16.mr.dn (Int.tmod k (s 4)) (by omega) (by omega))) rfl <| ?_
  refine ok_cc i214_373 rfl (cl_v o214 m13_102 na149 rfl rfl (bt rfl) (bt rfl) rfl (by rw [(ShYard_k0 hWw21.1.y), o149])) ln149 (pd149 (aR O) (aI (Int.tmod k (s 4)))) <| (Ok.deep (y149 (x1 := (Int.tmod k (s 4))) hWw21.1 hWw21.2.1 ⟨by omega, by omega⟩ hl) (by omega)).mono (fun o9 g13c M13c p13c => ?_)
  obtain ⟨rfl, eg13, hMc13, hWr13⟩ := p13c
  rw [eg13]
  have hYk13 := Yd.fc hY16 (Fr.wr hWr13)
  have hWk13 := CW.ch hWw21 hMc13
  have fk13 := Fr.trans e17 (fa_c hY16.gr.o hWr13)
  refine kt_v (pc' := 376) rfl <| ok_iload (pc' := 378) i214_376 rfl rfl <| ok_cnes (pc1 := 385) (pc2 := 381) i214_378 rfl rfl <| ok_iconst (pc' := 382) i214_381 rfl <| ok_goto (pc' := 386) i214_382 rfl <| ok_iretz i214_386 rt214 (by decide) <| ?_
  exact hret _ _ _ _ hYk13 (CW.up hWk13 ⟨by omega, by omega⟩) (by rw [upI_ne (by omega), upI_ne (by omega)]; exact h542) (by rw [upI_ne (by omega), upI_ne (by omega)]; exact h40) (Fr.w fk13 (by omega) (by omega))
theorem w214_set0 {g : AG} {M : AM} {O : Nat} {A : YA} {s q : Int → Int} {b : Int} {d : Nat} {w v k : Int} {Q : AO → AG → AM → Prop} (hY : Yd g M O A s q) (hW : CW g M O b q s) (hv : 1 ≤ v ∧ v ≤ 7) (hk : 0 ≤ k ∧ k ≤ 15) (h542 : s 542 = 0) (h40 : s 3 ≤ 40) (hb : b + 6 ≤ 200) (hw : w = 8) (hk8 : 0 ≤ k ∧ k < 8) (hret : ∀ (g1 : AG) (M1 : AM) (A1 : YA) (s1 : Int → Int), Yd g1 M1 O A1 s1 q → CW g1 M1 O (b + 6) q s1 → s1 542 = 0 → s1 3 ≤ 40 → Fr FA 8800 198800 g M g1 M1 → Q (.inl (some (aI 1))) g1 M1) : Ok (d + 12) 214 26 [aR O, aR 101, aR 100, aI w, aI v, aI k, aU, aU] [] g M Q := by
  have hV := hW.2.1.v
  have hQ := V_q hV
  have y3 := V_3 hV
  have y4 := V_4 hV
  have y5 := V_5 hV
  have yq0 := Q_0 hQ
  have yq1 := Q_1 hQ
  have y0 := hV.2.1
  have yb := V_b hV
  have y1 := V_1 hV
  have y2 := V_2 hV
  have f0 : Fr FA 0 0 g M g M := Fr.rfl
  refine ok_iloadn (pc' := 27) i214_26 rfl rfl <| ok_iconst (pc' := 28) i214_27 rfl <| ?_
  refine ok_cge (pc1 := 56) (pc2 := 31) i214_28 (by omega) rfl rfl (fun h1 => ?_) (fun h9 => by exfalso; omega)
  refine ok_iloadn (pc' := 57) i214_56 rfl rfl <| ok_iconst (pc' := 58) i214_57 rfl <| ?_
  refine ok_cge (pc1 := 78) (pc2 := 61) i214_58 (by omega) rfl rfl (fun h2 => ?_) (fun h9 => by exfalso; omega)
  refine ok_iloadn (pc' := 79) i214_78 rfl rfl <| ok_iconst (pc' := 80) i214_79 rfl <| ?_
  refine ok_cne (pc1 := 177) (pc2 := 83) i214_80 (by omega) rfl rfl (fun h3 => ?_) (fun h9 => by exfalso; omega)
  refine ok_iloadn (pc' := 178) i214_177 rfl rfl <| ok_bipush (v := 7) (pc' := 180) i214_178 rfl rfl <| ?_
  refine ok_cge (pc1 := 272) (pc2 := 183) i214_180 (by omega) rfl rfl (fun h4 => ?_) (fun h9 => by exfalso; omega)
  refine ok_iloadn (pc' := 273) i214_272 rfl rfl <| ok_bipush (v := 7) (pc' := 275) i214_273 rfl rfl <| ?_
  refine ok_cne (pc1 := 387) (pc2 := 278) i214_275 (by omega) rfl rfl (fun h5 => ?_) (fun h9 => by exfalso; omega)
  refine ok_iloadn (pc' := 388) i214_387 rfl rfl <| ok_bipush (v := 8) (pc' := 390) i214_388 rfl rfl <| ?_
  refine ok_cne (pc1 := 487) (pc2 := 393) i214_390 (by omega) rfl rfl (fun h9 => by exfalso; omega) (fun h6 => ?_)
  refine ok_iload (pc' := 395) i214_393 rfl rfl <| ok_bipush (v := 8) (pc' := 397) i214_395 rfl rfl <| ?_
  refine ok_cge (pc1 := 407) (pc2 := 400) i214_397 (by omega) rfl rfl (fun h9 => by exfalso; omega) (fun h7 => ?_)
  refine ok_aloadn (pc' := 401) i214_400 rfl rfl <| ok_getfi (v := (s 1)) (pc' := 404) i214_401 o214 gi13_146 (hY.gr.ky) ((Yd.n1 hY)) rfl <| ok_goto (pc' := 411) i214_404 rfl <| ok_istore (pc' := 413) (ls' := [aR O, aR 101, aR 100, aI w, aI v, aI k, aI (s 1), aU]) i214_411 (bt rfl) rfl rfl <| ok_iload (pc' := 415) i214_413 rfl rfl <| ok_bipush (v := 8) (pc' := 417) i214_415 rfl rfl <| ?_
  refine ok_cge (pc1 := 429) (pc2 := 420) i214_417 (by omega) rfl rfl (fun h9 => by exfalso; omega) (fun h8 => ?_)
  refine ok_aloadn (pc' := 421) i214_420 rfl rfl <| ok_iload (pc' := 423) i214_421 rfl rfl <| ok_putfj (kk := 14) (pc' := 426) i214_423 o214 pi214_146 (hY.gr.ky) rfl rfl <| ?_
  have hY9 := Yd.wy14 hY (v := v)
  have e10 := frw f0 (fa_ge (by omega)) hY9
  have n11 : (upI s 1 v) 3 = s 3 := upI_ne (by omega)
  have n12 : (upI s 1 v) 4 = s 4 := upI_ne (by omega)
  have n13 : (upI s 1 v) 5 = s 5 := upI_ne (by omega)
  have hWw14 := CW.fy hW (frw (Fr.rfl (F := FY O)) (fy_101 hY.gr.o) hY9)
  refine ok_goto (pc' := 435) i214_426 rfl <| ok_aloadn (pc' := 436) i214_435 rfl rfl <| ok_iload (pc' := 438) i214_436 rfl rfl <| ok_bipush (v := 8) (pc' := 440) i214_438 rfl rfl <| ok_idivp (v := (Int.tdiv k 8)) (pc' := 441) i214_440 (by omega) rfl rfl <| ?_
  have z15 : 8 * (Int.tdiv k 8) ≤ k ∧ k ≤ 8 * (Int.tdiv k 8) + 7 ∧ 0 ≤ (Int.tdiv k 8) := tdiv_f 8 (by omega) (by decide)
  rw [show (Int.tdiv k 8) = 0 by omega]
  refine ok_iload (pc' := 443) i214_441 rfl rfl <| ?_
  refine ok_cc i214_443 rfl (cl_v o214 m13_108 na151 rfl rfl (bt rfl) (bt rfl) rfl (by rw [(ShYard_k0 hWw14.1.y), o151])) ln151 (pd151 (aR O) (aI 0) (aI v)) <| (Ok.deep (y151_0 (x2 := v) hWw14.1 hWw14.2.1 ⟨by omega, by omega⟩) (by omega)).mono (fun o9 g14c M14c p14c => ?_)
  obtain ⟨rfl, eg14, hMc14, hWr14⟩ := p14c
  rw [eg14]
  have hYk14 := Yd.fc hY9 (Fr.wr hWr14)
  have hWk14 := CW.ch hWw14 hMc14
  have fk14 := Fr.trans e10 (fa_c hY9.gr.o hWr14)
  have hWx14 : CW g M14c O b q (upI s 1 v) := hWk14
  refine kt_v (pc' := 446) rfl <| ok_iload (pc' := 448) i214_446 rfl rfl <| ok_cnes (pc1 := 485) (pc2 := 451) i214_448 rfl rfl <| ok_aloadn (pc' := 452) i214_451 rfl rfl <| ok_bipush (v := 24) (pc' := 454) i214_452 rfl rfl <| ok_iload (pc' := 456) i214_454 rfl rfl <| ok_bipush (v := 8) (pc' := 458) i214_456 rfl rfl <| ok_idivp (v := (Int.tdiv k 8)) (pc' := 459) i214_458 (by omega) rfl rfl <| ?_
  rw [show (Int.tdiv k 8) = 0 by omega]
  refine ok_iload (pc' := 461) i214_459 rfl rfl <| ok_bipush (v := 8) (pc' := 463) i214_461 rfl rfl <| ?_
  refine ok_cge (pc1 := 471) (pc2 := 466) i214_463 (by omega) rfl rfl (fun h9 => by exfalso; omega) (fun h16 => ?_)
  refine ok_bipush (v := 10) (pc' := 468) i214_466 rfl rfl <| ok_goto (pc' := 472) i214_468 rfl <| ok_iconst (pc' := 473) i214_472 rfl <| ok_iconst (pc' := 474) i214_473 rfl <| ?_
  refine ok_cc i214_474 rfl (cl_s o214 m13_234 na211 rfl rfl (bt rfl) (bt rfl) rfl) ln211 (pd211 (aR O) (aI 24) (aI 0) (aI 10) (aI 0) (aI 0)) <| (Ok.deep (t211_3 (k212_24 (lev := 2) (ShYard_k0 hWx14.1.y) (by omega) (y151_x0 (Y := O) (P := O + 38) (A := O + 49) (V := O + 73) (T := O + 74) (K := O + 100) (H := O + 102) (X := O + 346) hWx14.1.y hWx14.1.w hWx14.1.p hWx14.1.s hWx14.2.1.p hWx14.2.1.s hQ hWx14.2.1.v hWx14.2.1.l))) (by omega)).mono (fun o9 g15t M15t p15t => ?_)
  obtain ⟨rfl, eg15t, em15t⟩ := p15t
  have et15 := Fr.xx eg15t em15t
  have hYc17 := Yd.f0 hYk14 et15
  have hWc17 := CW.f0 hWx14 et15
  have f17 := Fr.trans fk14 (Fr.of0 et15)
  refine kt_v (pc' := 477) rfl <| ok_iconst (pc' := 478) i214_477 rfl <| ok_kc0 (pc1 := 485) (pc2 := 481) i214_478 (by decide) rfl rfl <| ok_iconst (pc' := 482) i214_481 rfl <| ok_goto (pc' := 486) i214_482 rfl <| ok_iretz i214_486 rt214 (by decide) <| ?_
  exact hret _ _ _ _ hYc17 (CW.up hWc17 ⟨by omega, by omega⟩) (by rw [upI_ne (by omega)]; exact h542) (by rw [upI_ne (by omega)]; exact h40) (Fr.w f17 (by omega) (by omega))
theorem w214_set1 {g : AG} {M : AM} {O : Nat} {A : YA} {s q : Int → Int} {b : Int} {d : Nat} {w v k : Int} {Q : AO → AG → AM → Prop} (hY : Yd g M O A s q) (hW : CW g M O b q s) (hv : 1 ≤ v ∧ v ≤ 7) (hk : 0 ≤ k ∧ k ≤ 15) (h542 : s 542 = 0) (h40 : s 3 ≤ 40) (hb : b + 6 ≤ 200) (hw : w = 8) (hk8 : 8 ≤ k ∧ k ≤ 15) (hret : ∀ (g1 : AG) (M1 : AM) (A1 : YA) (s1 : Int → Int), Yd g1 M1 O A1 s1 q → CW g1 M1 O (b + 6) q s1 → s1 542 = 0 → s1 3 ≤ 40 → Fr FA 8800 198800 g M g1 M1 → Q (.inl (some (aI 1))) g1 M1) : Ok (d + 12) 214 26 [aR O, aR 101, aR 100, aI w, aI v, aI k, aU, aU] [] g M Q := by
  have hV := hW.2.1.v
  have hQ := V_q hV
  have y3 := V_3 hV
  have y4 := V_4 hV
  have y5 := V_5 hV
  have yq0 := Q_0 hQ
  have yq1 := Q_1 hQ
  have y0 := hV.2.1
  have yb := V_b hV
  have y1 := V_1 hV
  have y2 := V_2 hV
  have f0 : Fr FA 0 0 g M g M := Fr.rfl
  refine ok_iloadn (pc' := 27) i214_26 rfl rfl <| ok_iconst (pc' := 28) i214_27 rfl <| ?_
  refine ok_cge (pc1 := 56) (pc2 := 31) i214_28 (by omega) rfl rfl (fun h1 => ?_) (fun h9 => by exfalso; omega)
  refine ok_iloadn (pc' := 57) i214_56 rfl rfl <| ok_iconst (pc' := 58) i214_57 rfl <| ?_
  refine ok_cge (pc1 := 78) (pc2 := 61) i214_58 (by omega) rfl rfl (fun h2 => ?_) (fun h9 => by exfalso; omega)
  refine ok_iloadn (pc' := 79) i214_78 rfl rfl <| ok_iconst (pc' := 80) i214_79 rfl <| ?_
  refine ok_cne (pc1 := 177) (pc2 := 83) i214_80 (by omega) rfl rfl (fun h3 => ?_) (fun h9 => by exfalso; omega)
  refine ok_iloadn (pc' := 178) i214_177 rfl rfl <| ok_bipush (v := 7) (pc' := 180) i214_178 rfl rfl <| ?_
  refine ok_cge (pc1 := 272) (pc2 := 183) i214_180 (by omega) rfl rfl (fun h4 => ?_) (fun h9 => by exfalso; omega)
  refine ok_iloadn (pc' := 273) i214_272 rfl rfl <| ok_bipush (v := 7) (pc' := 275) i214_273 rfl rfl <| ?_
  refine ok_cne (pc1 := 387) (pc2 := 278) i214_275 (by omega) rfl rfl (fun h5 => ?_) (fun h9 => by exfalso; omega)
  refine ok_iloadn (pc' := 388) i214_387 rfl rfl <| ok_bipush (v := 8) (pc' := 390) i214_388 rfl rfl <| ?_
  refine ok_cne (pc1 := 487) (pc2 := 393) i214_390 (by omega) rfl rfl (fun h9 => by exfalso; omega) (fun h6 => ?_)
  refine ok_iload (pc' := 395) i214_393 rfl rfl <| ok_bipush (v := 8) (pc' := 397) i214_395 rfl rfl <| ?_
  refine ok_cge (pc1 := 407) (pc2 := 400) i214_397 (by omega) rfl rfl (fun h7 => ?_) (fun h9 => by exfalso; omega)
  refine ok_aloadn (pc' := 408) i214_407 rfl rfl <| ok_getfi (v := (s 2)) (pc' := 411) i214_408 o214 gi13_149 (hY.gr.ky) ((Yd.n2 hY)) rfl <| ok_istore (pc' := 413) (ls' := [aR O, aR 101, aR 100, aI w, aI v, aI k, aI (s 2), aU]) i214_411 (bt rfl) rfl rfl <| ok_iload (pc' := 415) i214_413 rfl rfl <| ok_bipush (v := 8) (pc' := 417) i214_415 rfl rfl <| ?_
  refine ok_cge (pc1 := 429) (pc2 := 420) i214_417 (by omega) rfl rfl (fun h8 => ?_) (fun h9 => by exfalso; omega)
  refine ok_aloadn (pc' := 430) i214_429 rfl rfl <| ok_iload (pc' := 432) i214_430 rfl rfl <| ok_putfj (kk := 15) (pc' := 435) i214_432 o214 pi214_149 (hY.gr.ky) rfl rfl <| ?_
  have hY9 := Yd.wy15 hY (v := v)
  have e10 := frw f0 (fa_ge (by omega)) hY9
  have n11 : (upI s 2 v) 3 = s 3 := upI_ne (by omega)
  have n12 : (upI s 2 v) 4 = s 4 := upI_ne (by omega)
  have n13 : (upI s 2 v) 5 = s 5 := upI_ne (by omega)
  have hWw14 := CW.fy hW (frw (Fr.rfl (F := FY O)) (fy_101 hY.gr.o) hY9)
  refine ok_aloadn (pc' := 436) i214_435 rfl rfl <| ok_iload (pc' := 438) i214_436 rfl rfl <| ok_bipush (v := 8) (pc' := 440) i214_438 rfl rfl <| ok_idivp (v := (Int.tdiv k 8)) (pc' := 441) i214_440 (by omega) rfl rfl <| ?_
  have z15 : 8 * (Int.tdiv k 8) ≤ k ∧ k ≤ 8 * (Int.tdiv k 8) + 7 ∧ 0 ≤ (Int.tdiv k 8) := tdiv_f 8 (by omega) (by decide)
  rw [show (Int.tdiv k 8) = 1 by omega]
  refine ok_iload (pc' := 443) i214_441 rfl rfl <| ?_
  refine ok_cc i214_443 rfl (cl_v o214 m13_108 na151 rfl rfl (bt rfl) (bt rfl) rfl (by rw [(ShYard_k0 hWw14.1.y), o151])) ln151 (pd151 (aR O) (aI 1) (aI v)) <| (Ok.deep (y151_1 (x2 := v) hWw14.1 hWw14.2.1 ⟨by omega, by omega⟩) (by omega)).mono (fun o9 g16c M16c p16c => ?_)
  obtain ⟨rfl, eg16, hMc16, hWr16⟩ := p16c
  rw [eg16]
  have hYk16 := Yd.fc hY9 (Fr.wr hWr16)
  have hWk16 := CW.ch hWw14 hMc16
  have fk16 := Fr.trans e10 (fa_c hY9.gr.o hWr16)
  have hWx16 : CW g M16c O b q (upI s 2 v) := hWk16
  refine kt_v (pc' := 446) rfl <| ok_iload (pc' := 448) i214_446 rfl rfl <| ok_cnes (pc1 := 485) (pc2 := 451) i214_448 rfl rfl <| ok_aloadn (pc' := 452) i214_451 rfl rfl <| ok_bipush (v := 24) (pc' := 454) i214_452 rfl rfl <| ok_iload (pc' := 456) i214_454 rfl rfl <| ok_bipush (v := 8) (pc' := 458) i214_456 rfl rfl <| ok_idivp (v := (Int.tdiv k 8)) (pc' := 459) i214_458 (by omega) rfl rfl <| ?_
  rw [show (Int.tdiv k 8) = 1 by omega]
  refine ok_iload (pc' := 461) i214_459 rfl rfl <| ok_bipush (v := 8) (pc' := 463) i214_461 rfl rfl <| ?_
  refine ok_cge (pc1 := 471) (pc2 := 466) i214_463 (by omega) rfl rfl (fun h16 => ?_) (fun h9 => by exfalso; omega)
  refine ok_iconst (pc' := 472) i214_471 rfl <| ok_iconst (pc' := 473) i214_472 rfl <| ok_iconst (pc' := 474) i214_473 rfl <| ?_
  refine ok_cc i214_474 rfl (cl_s o214 m13_234 na211 rfl rfl (bt rfl) (bt rfl) rfl) ln211 (pd211 (aR O) (aI 24) (aI 1) (aI 0) (aI 0) (aI 0)) <| (Ok.deep (t211_3 (k212_24 (lev := 2) (ShYard_k0 hWx16.1.y) (by omega) (y151_x1 (Y := O) (P := O + 38) (A := O + 49) (V := O + 73) (T := O + 74) (K := O + 100) (H := O + 102) (X := O + 346) hWx16.1.y hWx16.1.w hWx16.1.p hWx16.1.s hWx16.2.1.p hWx16.2.1.s hQ hWx16.2.1.v hWx16.2.1.l))) (by omega)).mono (fun o9 g17t M17t p17t => ?_)
  obtain ⟨rfl, eg17t, em17t⟩ := p17t
  have et17 := Fr.xx eg17t em17t
  have hYc17 := Yd.f0 hYk16 et17
  have hWc17 := CW.f0 hWx16 et17
  have f17 := Fr.trans fk16 (Fr.of0 et17)
  refine kt_v (pc' := 477) rfl <| ok_iconst (pc' := 478) i214_477 rfl <| ok_kc0 (pc1 := 485) (pc2 := 481) i214_478 (by decide) rfl rfl <| ok_iconst (pc' := 482) i214_481 rfl <| ok_goto (pc' := 486) i214_482 rfl <| ok_iretz i214_486 rt214 (by decide) <| ?_
  exact hret _ _ _ _ hYc17 (CW.up hWc17 ⟨by omega, by omega⟩) (by rw [upI_ne (by omega)]; exact h542) (by rw [upI_ne (by omega)]; exact h40) (Fr.w f17 (by omega) (by omega))
theorem w214_cut0 {g : AG} {M : AM} {O : Nat} {A : YA} {s q : Int → Int} {b : Int} {d : Nat} {w v k : Int} {Q : AO → AG → AM → Prop} (hY : Yd g M O A s q) (hW : CW g M O b q s) (hv : 1 ≤ v ∧ v ≤ 7) (hk : 0 ≤ k ∧ k ≤ 15) (h542 : s 542 = 0) (h40 : s 3 ≤ 40) (hb : b + 6 ≤ 200) (hw13 : w ≤ 13) (hw : 8 < w) (h3 : s 3 = 0) (hret : ∀ (g1 : AG) (M1 : AM) (A1 : YA) (s1 : Int → Int), Yd g1 M1 O A1 s1 q → CW g1 M1 O (b + 6) q s1 → s1 542 = 0 → s1 3 ≤ 40 → Fr FA 8800 198800 g M g1 M1 → Q (.inl (some (aI 1))) g1 M1) : Ok (d + 12) 214 26 [aR O, aR 101, aR 100, aI w, aI v, aI k, aU, aU] [] g M Q := by
  have hV := hW.2.1.v
  have hQ := V_q hV
  have y3 := V_3 hV
  have y4 := V_4 hV
  have y5 := V_5 hV
  have yq0 := Q_0 hQ
  have yq1 := Q_1 hQ
  have y0 := hV.2.1
  have yb := V_b hV
  have y1 := V_1 hV
  have y2 := V_2 hV
  have f0 : Fr FA 0 0 g M g M := Fr.rfl
  have hw13 := hw13
  refine ok_iloadn (pc' := 27) i214_26 rfl rfl <| ok_iconst (pc' := 28) i214_27 rfl <| ?_
  refine ok_cge (pc1 := 56) (pc2 := 31) i214_28 (by omega) rfl rfl (fun h1 => ?_) (fun h9 => by exfalso; omega)
  refine ok_iloadn (pc' := 57) i214_56 rfl rfl <| ok_iconst (pc' := 58) i214_57 rfl <| ?_
  refine ok_cge (pc1 := 78) (pc2 := 61) i214_58 (by omega) rfl rfl (fun h2 => ?_) (fun h9 => by exfalso; omega)
  refine ok_iloadn (pc' := 79) i214_78 rfl rfl <| ok_iconst (pc' := 80) i214_79 rfl <| ?_
  refine ok_cne (pc1 := 177) (pc2 := 83) i214_80 (by omega) rfl rfl (fun h3 => ?_) (fun h9 => by exfalso; omega)
  refine ok_iloadn (pc' := 178) i214_177 rfl rfl <| ok_bipush (v := 7) (pc' := 180) i214_178 rfl rfl <| ?_
  refine ok_cge (pc1 := 272) (pc2 := 183) i214_180 (by omega) rfl rfl (fun h4 => ?_) (fun h9 => by exfalso; omega)
  refine ok_iloadn (pc' := 273) i214_272 rfl rfl <| ok_bipush (v := 7) (pc' := 275) i214_273 rfl rfl <| ?_
  refine ok_cne (pc1 := 387) (pc2 := 278) i214_275 (by omega) rfl rfl (fun h5 => ?_) (fun h9 => by exfalso; omega)
  refine ok_iloadn (pc' := 388) i214_387 rfl rfl <| ok_bipush (v := 8) (pc' := 390) i214_388 rfl rfl <| ?_
  refine ok_cne (pc1 := 487) (pc2 := 393) i214_390 (by omega) rfl rfl (fun h6 => ?_) (fun h9 => by exfalso; omega)
  refine ok_aloadn (pc' := 488) i214_487 rfl rfl <| ok_getfi (v := (s 3)) (pc' := 491) i214_488 o214 gi13_152 (hY.gr.ky) ((Yd.n3 hY)) rfl <| ?_
  refine ok_zne (pc1 := 516) (pc2 := 494) i214_491 (by omega) rfl rfl (fun h9 => by exfalso; omega) (fun h7 => ?_)
  refine ok_aloadn (pc' := 495) i214_494 rfl rfl <| ok_bipush (v := 16) (pc' := 497) i214_495 rfl rfl <| ok_iconst (pc' := 498) i214_497 rfl <| ok_iconst (pc' := 499) i214_498 rfl <| ok_iconst (pc' := 500) i214_499 rfl <| ok_iconst (pc' := 501) i214_500 rfl <| ?_
  refine ok_cc i214_501 rfl (cl_s o214 m13_234 na211 rfl rfl (bt rfl) (bt rfl) rfl) ln211 (pd211 (aR O) (aI 16) (aI 0) (aI 1) (aI 0) (aI 0)) <| (Ok.deep (t211_2 (k212_16 (lev := 2) (ShYard_k0 hW.1.y) (by omega) (y143_x0 (Y := O) (P := O + 38) (A := O + 49) (V := O + 73) (T := O + 74) (K := O + 100) (H := O + 102) (X := O + 346) (x1 := 0) (x2 := 1) hW.1.y hW.1.w hW.1.p hW.1.s hW.2.1.p hW.2.1.s hQ hV ⟨by omega, by omega⟩ hW.2.1.l))) (by omega)).mono (fun o9 g18t M18t p18t => ?_)
  obtain ⟨rfl, eg18t, em18t⟩ := p18t
  have et18 := Fr.xx eg18t em18t
  have hYc8 := Yd.f0 hY et18
  have hWc8 := CW.f0 hW et18
  have f8 := Fr.trans f0 (Fr.of0 et18)
  refine kt_v (pc' := 504) rfl <| ok_iconst (pc' := 505) i214_504 rfl <| ok_kc0 (pc1 := 512) (pc2 := 508) i214_505 (by decide) rfl rfl <| ok_iconst (pc' := 509) i214_508 rfl <| ok_goto (pc' := 536) i214_509 rfl <| ok_iretz i214_536 rt214 (by decide) <| ?_
  exact hret _ _ _ _ hYc8 (CW.up hWc8 ⟨by omega, by omega⟩) (h542) (h40) (Fr.w f8 (by omega) (by omega))
theorem w215_scr0 {g : AG} {M : AM} {O : Nat} {A : YA} {s q : Int → Int} {b : Int} {d : Nat} {w v r : Int} {Q : AO → AG → AM → Prop} (hY : Yd g M O A s q) (hW : CW g M O b q s) (hv : 1 ≤ v ∧ v ≤ 7) (hr : 0 ≤ r ∧ r < s 3) (h542 : s 542 = 0) (h40 : s 3 ≤ 40) (hb : b + 6 ≤ 200) (hw : w = 9) (hs : s (174 + r) ≠ 0) (hret : ∀ (g1 : AG) (M1 : AM) (A1 : YA) (s1 : Int → Int), Yd g1 M1 O A1 s1 q → CW g1 M1 O (b + 6) q s1 → s1 542 = 0 → s1 3 ≤ 40 → Fr FA 8800 198800 g M g1 M1 → Q (.inl (some (aI 1))) g1 M1) : Ok (d + 12) 215 0 [aR O, aR 101, aR (A.R r), aI w, aI v, aU, aU, aU, aU, aU, aU] [] g M Q := by
  have hV := hW.2.1.v
  have hQ := V_q hV
  have y3 := V_3 hV
  have y4 := V_4 hV
  have y5 := V_5 hV
  have yq0 := Q_0 hQ
  have yq1 := Q_1 hQ
  have y0 := hV.2.1
  have yb := V_b hV
  have y1 := V_1 hV
  have y2 := V_2 hV
  have f0 : Fr FA 0 0 g M g M := Fr.rfl
  have z1 := V_d1 hV hr.1 hr.2
  have z2 := V_d2 hV hr.1 hr.2
  have hs1 : 1 ≤ s (174 + r) := by omega
  refine ok_iloadn (pc' := 1) i215_0 rfl rfl <| ok_bipush (v := 9) (pc' := 3) i215_1 rfl rfl <| ?_
  refine ok_cne (pc1 := 58) (pc2 := 6) i215_3 (by omega) rfl rfl (fun h9 => by exfalso; omega) (fun h1 => ?_)
  refine ok_aloadn (pc' := 7) i215_6 rfl rfl <| ?_
  have z2 : 0 ≤ s (174 + r) ∧ s (174 + r) ≤ 2 := V_d2 hV (by omega) (by omega)
  refine ok_getfi (v := (s (174 + r))) (pc' := 10) i215_7 o215 gi13_178 ((hY.gr.rr r (by omega) (by omega)).2.2) ((Yd.r3 hY (k := r) (by omega) (by omega))) rfl <| ?_
  refine ok_zeq (pc1 := 36) (pc2 := 13) i215_10 (by omega) rfl rfl (fun h9 => by exfalso; omega) (fun h3 => ?_)
  refine ok_aloadn (pc' := 14) i215_13 rfl rfl <| ok_bipush (v := 23) (pc' := 16) i215_14 rfl rfl <| ok_aloadn (pc' := 17) i215_16 rfl rfl <| ok_getfi (v := r) (pc' := 20) i215_17 o215 gi13_253 ((hY.gr.rr r (by omega) (by omega)).2.2) ((hY.mr.rn r (by omega) (by omega))) rfl <| ok_iconst (pc' := 21) i215_20 rfl <| ok_iconst (pc' := 22) i215_21 rfl <| ok_iconst (pc' := 23) i215_22 rfl <| ?_
  refine ok_cc i215_23 rfl (cl_s o215 m13_234 na211 rfl rfl (bt rfl) (bt rfl) rfl) ln211 (pd211 (aR O) (aI 23) (aI r) (aI 0) (aI 0) (aI 0)) <| (Ok.deep (t211_3 (k212_23 (lev := 2) (ShYard_k0 hW.1.y) (by omega) (y150_x1 (Y := O) (P := O + 38) (A := O + 49) (V := O + 73) (T := O + 74) (K := O + 100) (H := O + 102) (X := O + 346) (x1 := r) hW.1.y hW.1.w hW.1.p hW.1.s hW.2.1.p hW.2.1.s hQ hV ⟨by omega, by omega⟩ hs hW.2.1.l))) (by omega)).mono (fun o9 g19t M19t p19t => ?_)
  obtain ⟨rfl, eg19t, em19t⟩ := p19t
  have et19 := Fr.xx eg19t em19t
  have hYc4 := Yd.f0 hY et19
  have hWc4 := CW.f0 hW et19
  have f4 := Fr.trans f0 (Fr.of0 et19)
  refine kt_v (pc' := 26) rfl <| ok_iconst (pc' := 27) i215_26 rfl <| ok_kc0 (pc1 := 34) (pc2 := 30) i215_27 (by decide) rfl rfl <| ok_iconst (pc' := 31) i215_30 rfl <| ok_goto (pc' := 35) i215_31 rfl <| ok_iretz i215_35 rt215 (by decide) <| ?_
  exact hret _ _ _ _ hYc4 (CW.up hWc4 ⟨by omega, by omega⟩) (h542) (h40) (Fr.w f4 (by omega) (by omega))
theorem w215_scr1 {g : AG} {M : AM} {O : Nat} {A : YA} {s q : Int → Int} {b : Int} {d : Nat} {w v r : Int} {Q : AO → AG → AM → Prop} (hY : Yd g M O A s q) (hW : CW g M O b q s) (hv : 1 ≤ v ∧ v ≤ 7) (hr : 0 ≤ r ∧ r < s 3) (h542 : s 542 = 0) (h40 : s 3 ≤ 40) (hb : b + 6 ≤ 200) (hw : w = 9) (hs : s (174 + r) = 0) (hret : ∀ (g1 : AG) (M1 : AM) (A1 : YA) (s1 : Int → Int), Yd g1 M1 O A1 s1 q → CW g1 M1 O (b + 6) q s1 → s1 542 = 0 → s1 3 ≤ 40 → Fr FA 8800 198800 g M g1 M1 → Q (.inl (some (aI 1))) g1 M1) : Ok (d + 12) 215 0 [aR O, aR 101, aR (A.R r), aI w, aI v, aU, aU, aU, aU, aU, aU] [] g M Q := by
  have hV := hW.2.1.v
  have hQ := V_q hV
  have y3 := V_3 hV
  have y4 := V_4 hV
  have y5 := V_5 hV
  have yq0 := Q_0 hQ
  have yq1 := Q_1 hQ
  have y0 := hV.2.1
  have yb := V_b hV
  have y1 := V_1 hV
  have y2 := V_2 hV
  have f0 : Fr FA 0 0 g M g M := Fr.rfl
  have z1 := V_d1 hV hr.1 hr.2
  have z2 := V_d2 hV hr.1 hr.2
  refine ok_iloadn (pc' := 1) i215_0 rfl rfl <| ok_bipush (v := 9) (pc' := 3) i215_1 rfl rfl <| ?_
  refine ok_cne (pc1 := 58) (pc2 := 6) i215_3 (by omega) rfl rfl (fun h9 => by exfalso; omega) (fun h1 => ?_)
  refine ok_aloadn (pc' := 7) i215_6 rfl rfl <| ?_
  have z2 : 0 ≤ s (174 + r) ∧ s (174 + r) ≤ 2 := V_d2 hV (by omega) (by omega)
  refine ok_getfi (v := (s (174 + r))) (pc' := 10) i215_7 o215 gi13_178 ((hY.gr.rr r (by omega) (by omega)).2.2) ((Yd.r3 hY (k := r) (by omega) (by omega))) rfl <| ?_
  refine ok_zeq (pc1 := 36) (pc2 := 13) i215_10 (by omega) rfl rfl (fun h3 => ?_) (fun h9 => by exfalso; omega)
  refine ok_aloadn (pc' := 37) i215_36 rfl rfl <| ok_aloadn (pc' := 38) i215_37 rfl rfl <| ok_getfi (v := r) (pc' := 41) i215_38 o215 gi13_253 ((hY.gr.rr r (by omega) (by omega)).2.2) ((hY.mr.rn r (by omega) (by omega))) rfl <| ?_
  refine ok_cc i215_41 rfl (cl_v o215 m13_105 na150 rfl rfl (bt rfl) (bt rfl) rfl (by rw [(ShYard_k0 hW.1.y), o150])) ln150 (pd150 (aR O) (aI r)) <| (Ok.deep (y150 (x1 := r) hW.1 hW.2.1 hr hs) (by omega)).mono (fun o9 g20c M20c p20c => ?_)
  obtain ⟨rfl, eg20, hMc20, hWr20⟩ := p20c
  rw [eg20]
  have hYk20 := Yd.fc hY (Fr.wr hWr20)
  have hWk20 := CW.ch hW hMc20
  have fk20 := Fr.trans f0 (fa_c hY.gr.o hWr20)
  refine kt_v (pc' := 44) rfl <| ok_aloadn (pc' := 45) i215_44 rfl rfl <| ok_aloadn (pc' := 46) i215_45 rfl rfl <| ?_
  refine ok_cc i215_46 rfl (cl_v o215 m13_254 na207 rfl rfl (bt rfl) (bt rfl) rfl (by rw [hYk20.gr.ky, o207])) ln207 (pd207 (aR 101) (aR (A.R r))) <| (Ok.deep (t207 (k := r) hYk20 hV hr) (by omega)).mono (fun o9 g21c M21c p21c => ?_)
  obtain ⟨rfl, eg21, hYk21, e21k⟩ := p21c
  rw [eg21]
  have hWk21 := CW.fy hWk20 e21k
  have fk21 := Fr.trans fk20 (fa_y e21k)
  refine kt_v (pc' := 49) rfl <| ok_cnes (pc1 := 56) (pc2 := 52) i215_49 rfl rfl <| ok_iconst (pc' := 53) i215_52 rfl <| ok_goto (pc' := 57) i215_53 rfl <| ok_iretz i215_57 rt215 (by decide) <| ?_
  exact hret _ _ _ _ hYk21 (CW.up hWk21 ⟨by omega, by omega⟩) ((scr_542 ⟨by omega, by omega⟩).trans h542) (by unfold scrA; rw [upI_ne (by omega), upI_ne (by omega), upI_ne (by omega), upI_ne (by omega)]; exact h40) (Fr.w fk21 (by omega) (by omega))
theorem w215_cut0a {g : AG} {M : AM} {O : Nat} {A : YA} {s q : Int → Int} {b : Int} {d : Nat} {w v r : Int} {Q : AO → AG → AM → Prop} (hY : Yd g M O A s q) (hW : CW g M O b q s) (hv : 1 ≤ v ∧ v ≤ 7) (hr : 0 ≤ r ∧ r < s 3) (h542 : s 542 = 0) (h40 : s 3 ≤ 40) (hb : b + 6 ≤ 200) (hw : 9 < w ∧ w < 12) (hl : s (94 + r) < v) (hret : ∀ (g1 : AG) (M1 : AM) (A1 : YA) (s1 : Int → Int), Yd g1 M1 O A1 s1 q → CW g1 M1 O (b + 6) q s1 → s1 542 = 0 → s1 3 ≤ 40 → Fr FA 8800 198800 g M g1 M1 → Q (.inl (some (aI 1))) g1 M1) : Ok (d + 12) 215 0 [aR O, aR 101, aR (A.R r), aI w, aI v, aU, aU, aU, aU, aU, aU] [] g M Q := by
  have hV := hW.2.1.v
  have hQ := V_q hV
  have y3 := V_3 hV
  have y4 := V_4 hV
  have y5 := V_5 hV
  have yq0 := Q_0 hQ
  have yq1 := Q_1 hQ
  have y0 := hV.2.1
  have yb := V_b hV
  have y1 := V_1 hV
  have y2 := V_2 hV
  have f0 : Fr FA 0 0 g M g M := Fr.rfl
  have z1 := V_d1 hV hr.1 hr.2
  have z2 := V_d2 hV hr.1 hr.2
  refine ok_iloadn (pc' := 1) i215_0 rfl rfl <| ok_bipush (v := 9) (pc' := 3) i215_1 rfl rfl <| ?_
  refine ok_cne (pc1 := 58) (pc2 := 6) i215_3 (by omega) rfl rfl (fun h1 => ?_) (fun h9 => by exfalso; omega)
  refine ok_iloadn (pc' := 59) i215_58 rfl rfl <| ok_bipush (v := 12) (pc' := 61) i215_59 rfl rfl <| ?_
  refine ok_clt (pc1 := 71) (pc2 := 64) i215_61 (by omega) rfl rfl (fun h2 => ?_) (fun h9 => by exfalso; omega)
  refine ok_aloadn (pc' := 72) i215_71 rfl rfl <| ok_aloadn (pc' := 73) i215_72 rfl rfl <| ok_iconst (pc' := 74) i215_73 rfl <| ?_
  refine ok_nia (pc' := 76) i215_74 (by decide) rfl (fun xr3 g3 M3 hx3 hn3 hA3 e3 => ?_)
  have hYa3 := Yd.f0 hY e3
  have f3 := Fr.trans f0 (Fr.of0 e3)
  have hl3 : xr3 < 100 + gN g3 := by omega
  have hWn4 := CW.f0 hW e3
  refine ok_dup (pc' := 77) i215_76 rfl rfl <| ok_iconst (pc' := 78) i215_77 rfl <| ok_iload (pc' := 80) i215_78 rfl rfl <| ?_
  have b5 := hA3.2.1
  refine ok_iastore (pc' := 81) i215_80 (hA3.1) (rfl) (by omega) rfl <| ?_
  have e6 := Fr.up (x := 0) (v := v) e3 (Or.inr (Nat.le_of_eq hx3))
  have hYa6 := Yd.f0 hY e6
  have f6 := Fr.trans f0 (Fr.of0 e6)
  have hA6 := IA.up (x := 0) (v := v) hA3
  have hWn7 := CW.f0 hW e6
  have hRV : RowV 1 (upI (fun _ => 0) 0 v) := RowV1 ⟨by omega, by omega⟩
  refine ok_cc i215_81 rfl (cl_v o215 m13_260 na200 rfl rfl (bt rfl) (bt rfl) rfl (by rw [hYa6.gr.ky, o200])) ln200 (pd200 (aR 101) (aR (A.R r)) (aR xr3)) <| (Ok.deep (t200 hYa6 hV (k := r) hr hA6 hRV) (by omega)).mono (fun o9 g22l M22l p22l => ?_)
  obtain ⟨rfl, eg22l, em22l⟩ := p22l
  rw [eg22l, em22l]
  rw [left_1 hV upI_eq (by omega) hr, if_pos hl]
  refine kt_v (pc' := 84) rfl <| ok_kz0 (pc1 := 111) (pc2 := 87) i215_84 (by decide) rfl rfl <| ok_aloadn (pc' := 88) i215_87 rfl rfl <| ok_bipush (v := 16) (pc' := 90) i215_88 rfl rfl <| ok_aloadn (pc' := 91) i215_90 rfl rfl <| ok_getfi (v := r) (pc' := 94) i215_91 o215 gi13_253 ((hYa6.gr.rr r (by omega) (by omega)).2.2) ((hYa6.mr.rn r (by omega) (by omega))) rfl <| ok_iload (pc' := 96) i215_94 rfl rfl <| ok_iconst (pc' := 97) i215_96 rfl <| ?_
  refine ok_iconst (pc' := 98) i215_97 rfl <| ?_
  refine ok_cc i215_98 rfl (cl_s o215 m13_234 na211 rfl rfl (bt rfl) (bt rfl) rfl) ln211 (pd211 (aR O) (aI 16) (aI r) (aI v) (aI 0) (aI 0)) <| (Ok.deep (t211_3 (k212_16 (lev := 2) (ShYard_k0 hWn7.1.y) (by omega) (y143_x1 (Y := O) (P := O + 38) (A := O + 49) (V := O + 73) (T := O + 74) (K := O + 100) (H := O + 102) (X := O + 346) (x1 := r) (x2 := v) hWn7.1.y hWn7.1.w hWn7.1.p hWn7.1.s hWn7.2.1.p hWn7.2.1.s hQ hV hr ⟨by omega, by omega⟩ hl hWn7.2.1.l))) (by omega)).mono (fun o9 g23t M23t p23t => ?_)
  obtain ⟨rfl, eg23t, em23t⟩ := p23t
  have et23 := Fr.xx eg23t em23t
  have hYc8 := Yd.f0 hYa6 et23
  have hWc8 := CW.f0 hWn7 et23
  have f8 := Fr.trans f6 (Fr.of0 et23)
  have hB8xr3 := IA.fr hA6 et23 hl3 (fun e => e)
  have hl8xr3 := Nat.lt_of_lt_of_le hl3 (Nat.add_le_add_left et23.n 100)
  refine kt_v (pc' := 101) rfl <| ok_iconst (pc' := 102) i215_101 rfl <| ok_kc0 (pc1 := 109) (pc2 := 105) i215_102 (by decide) rfl rfl <| ok_iconst (pc' := 106) i215_105 rfl <| ok_goto (pc' := 110) i215_106 rfl <| ok_iretz i215_110 rt215 (by decide) <| ?_
  exact hret _ _ _ _ hYc8 (CW.up hWc8 ⟨by omega, by omega⟩) (h542) (h40) (Fr.w f8 (by omega) (by omega))
theorem w215_cut1a {g : AG} {M : AM} {O : Nat} {A : YA} {s q : Int → Int} {b : Int} {d : Nat} {w v r : Int} {Q : AO → AG → AM → Prop} (hY : Yd g M O A s q) (hW : CW g M O b q s) (hv : 1 ≤ v ∧ v ≤ 7) (hr : 0 ≤ r ∧ r < s 3) (h542 : s 542 = 0) (h40 : s 3 ≤ 40) (hb : b + 6 ≤ 200) (hw : 9 < w ∧ w < 12) (hl : ¬ (s (94 + r) < v)) (hret : ∀ (g1 : AG) (M1 : AM) (A1 : YA) (s1 : Int → Int), Yd g1 M1 O A1 s1 q → CW g1 M1 O (b + 6) q s1 → s1 542 = 0 → s1 3 ≤ 40 → Fr FA 8800 198800 g M g1 M1 → Q (.inl (some (aI 1))) g1 M1) : Ok (d + 12) 215 0 [aR O, aR 101, aR (A.R r), aI w, aI v, aU, aU, aU, aU, aU, aU] [] g M Q := by
  have hV := hW.2.1.v
  have hQ := V_q hV
  have y3 := V_3 hV
  have y4 := V_4 hV
  have y5 := V_5 hV
  have yq0 := Q_0 hQ
  have yq1 := Q_1 hQ
  have y0 := hV.2.1
  have yb := V_b hV
  have y1 := V_1 hV
  have y2 := V_2 hV
  have f0 : Fr FA 0 0 g M g M := Fr.rfl
  have z1 := V_d1 hV hr.1 hr.2
  have z2 := V_d2 hV hr.1 hr.2
  refine ok_iloadn (pc' := 1) i215_0 rfl rfl <| ok_bipush (v := 9) (pc' := 3) i215_1 rfl rfl <| ?_
  refine ok_cne (pc1 := 58) (pc2 := 6) i215_3 (by omega) rfl rfl (fun h1 => ?_) (fun h9 => by exfalso; omega)
  refine ok_iloadn (pc' := 59) i215_58 rfl rfl <| ok_bipush (v := 12) (pc' := 61) i215_59 rfl rfl <| ?_
  refine ok_clt (pc1 := 71) (pc2 := 64) i215_61 (by omega) rfl rfl (fun h2 => ?_) (fun h9 => by exfalso; omega)
  refine ok_aloadn (pc' := 72) i215_71 rfl rfl <| ok_aloadn (pc' := 73) i215_72 rfl rfl <| ok_iconst (pc' := 74) i215_73 rfl <| ?_
  refine ok_nia (pc' := 76) i215_74 (by decide) rfl (fun xr3 g3 M3 hx3 hn3 hA3 e3 => ?_)
  have hYa3 := Yd.f0 hY e3
  have f3 := Fr.trans f0 (Fr.of0 e3)
  have hl3 : xr3 < 100 + gN g3 := by omega
  have hWn4 := CW.f0 hW e3
  refine ok_dup (pc' := 77) i215_76 rfl rfl <| ok_iconst (pc' := 78) i215_77 rfl <| ok_iload (pc' := 80) i215_78 rfl rfl <| ?_
  have b5 := hA3.2.1
  refine ok_iastore (pc' := 81) i215_80 (hA3.1) (rfl) (by omega) rfl <| ?_
  have e6 := Fr.up (x := 0) (v := v) e3 (Or.inr (Nat.le_of_eq hx3))
  have hYa6 := Yd.f0 hY e6
  have f6 := Fr.trans f0 (Fr.of0 e6)
  have hA6 := IA.up (x := 0) (v := v) hA3
  have hWn7 := CW.f0 hW e6
  have hRV : RowV 1 (upI (fun _ => 0) 0 v) := RowV1 ⟨by omega, by omega⟩
  refine ok_cc i215_81 rfl (cl_v o215 m13_260 na200 rfl rfl (bt rfl) (bt rfl) rfl (by rw [hYa6.gr.ky, o200])) ln200 (pd200 (aR 101) (aR (A.R r)) (aR xr3)) <| (Ok.deep (t200 hYa6 hV (k := r) hr hA6 hRV) (by omega)).mono (fun o9 g24l M24l p24l => ?_)
  obtain ⟨rfl, eg24l, em24l⟩ := p24l
  rw [eg24l, em24l]
  rw [left_1 hV upI_eq (by omega) hr, if_neg hl]
  refine kt_v (pc' := 84) rfl <| ?_
  refine ok_zge (pc1 := 111) (pc2 := 87) i215_84 (by omega) rfl rfl (fun h8 => ?_) (fun h9 => by exfalso; omega)
  refine ok_aloadn (pc' := 112) i215_111 rfl rfl <| ok_aloadn (pc' := 113) i215_112 rfl rfl <| ok_getfi (v := r) (pc' := 116) i215_113 o215 gi13_253 ((hYa6.gr.rr r (by omega) (by omega)).2.2) ((hYa6.mr.rn r (by omega) (by omega))) rfl <| ok_iload (pc' := 118) i215_116 rfl rfl <| ?_
  refine ok_cc i215_118 rfl (cl_v o215 m13_83 na143 rfl rfl (bt rfl) (bt rfl) rfl (by rw [(ShYard_k0 hWn7.1.y), o143])) ln143 (pd143 (aR O) (aI r) (aI v)) <| (Ok.deep (y143 (x1 := r) (x2 := v) hWn7.1 hWn7.2.1 hr ⟨by omega, by omega⟩ z1 (by omega) y1) (by omega)).mono (fun o9 g25c M25c p25c => ?_)
  obtain ⟨rfl, eg25, hMc25, hWr25⟩ := p25c
  rw [eg25]
  have hYk25 := Yd.fc hYa6 (Fr.wr hWr25)
  have hWk25 := CW.ch hWn7 hMc25
  have fk25 := Fr.trans f6 (fa_c hYa6.gr.o hWr25)
  refine kt_v (pc' := 121) rfl <| ok_aloadn (pc' := 122) i215_121 rfl rfl <| ok_aloadn (pc' := 123) i215_122 rfl rfl <| ok_iload (pc' := 125) i215_123 rfl rfl <| ?_
  refine ok_cc i215_125 rfl (cl_v o215 m13_263 na203 rfl rfl (bt rfl) (bt rfl) rfl (by rw [hYk25.gr.ky, o203])) ln203 (pd203 (aR 101) (aR (A.R r)) (aI v)) <| (Ok.deep (t203 (k := r) (x := v) hYk25 hV hWk25.2.2 hr ⟨by omega, by omega⟩) (by omega)).mono (fun o9 g26c M26c p26c => ?_)
  obtain ⟨rfl, hYk26, e26k⟩ := p26c
  have hWk26 := CW.fy hWk25 e26k
  have fk26 := Fr.trans fk25 (fa_y e26k)
  refine kt_v (pc' := 128) rfl <| ok_cnes (pc1 := 135) (pc2 := 131) i215_128 rfl rfl <| ok_iconst (pc' := 132) i215_131 rfl <| ok_goto (pc' := 136) i215_132 rfl <| ok_iretz i215_136 rt215 (by decide) <| ?_
  exact hret _ _ _ _ hYk26 (CW.up hWk26 ⟨by omega, by omega⟩) ((cut_542 hV hr ⟨by omega, by omega⟩).trans h542) (by rw [cut_13 hV hr (by omega) (by omega)]; exact h40) (Fr.w fk26 (by omega) (by omega))
theorem w215_cut0b {g : AG} {M : AM} {O : Nat} {A : YA} {s q : Int → Int} {b : Int} {d : Nat} {w v r : Int} {Q : AO → AG → AM → Prop} (hY : Yd g M O A s q) (hW : CW g M O b q s) (hv : 1 ≤ v ∧ v ≤ 7) (hr : 0 ≤ r ∧ r < s 3) (h542 : s 542 = 0) (h40 : s 3 ≤ 40) (hb : b + 6 ≤ 200) (hw : 12 ≤ w ∧ q 1 = 0) (hw13 : w ≤ 13) (hl : s (94 + r) < v) (hret : ∀ (g1 : AG) (M1 : AM) (A1 : YA) (s1 : Int → Int), Yd g1 M1 O A1 s1 q → CW g1 M1 O (b + 6) q s1 → s1 542 = 0 → s1 3 ≤ 40 → Fr FA 8800 198800 g M g1 M1 → Q (.inl (some (aI 1))) g1 M1) : Ok (d + 12) 215 0 [aR O, aR 101, aR (A.R r), aI w, aI v, aU, aU, aU, aU, aU, aU] [] g M Q := by
  have hV := hW.2.1.v
  have hQ := V_q hV
  have y3 := V_3 hV
  have y4 := V_4 hV
  have y5 := V_5 hV
  have yq0 := Q_0 hQ
  have yq1 := Q_1 hQ
  have y0 := hV.2.1
  have yb := V_b hV
  have y1 := V_1 hV
  have y2 := V_2 hV
  have f0 : Fr FA 0 0 g M g M := Fr.rfl
  have z1 := V_d1 hV hr.1 hr.2
  have z2 := V_d2 hV hr.1 hr.2
  have hw13 : w ≤ 13 := hw13
  refine ok_iloadn (pc' := 1) i215_0 rfl rfl <| ok_bipush (v := 9) (pc' := 3) i215_1 rfl rfl <| ?_
  refine ok_cne (pc1 := 58) (pc2 := 6) i215_3 (by omega) rfl rfl (fun h1 => ?_) (fun h9 => by exfalso; omega)
  refine ok_iloadn (pc' := 59) i215_58 rfl rfl <| ok_bipush (v := 12) (pc' := 61) i215_59 rfl rfl <| ?_
  refine ok_clt (pc1 := 71) (pc2 := 64) i215_61 (by omega) rfl rfl (fun h9 => by exfalso; omega) (fun h2 => ?_)
  refine ok_aloadn (pc' := 65) i215_64 rfl rfl <| ok_getfi (v := (q 1)) (pc' := 68) i215_65 o215 gi13_257 (hY.gr.ky) (hY.mr.q1) rfl <| ?_
  refine ok_zne (pc1 := 137) (pc2 := 71) i215_68 (by omega) rfl rfl (fun h9 => by exfalso; omega) (fun h3 => ?_)
  refine ok_aloadn (pc' := 72) i215_71 rfl rfl <| ok_aloadn (pc' := 73) i215_72 rfl rfl <| ok_iconst (pc' := 74) i215_73 rfl <| ?_
  refine ok_nia (pc' := 76) i215_74 (by decide) rfl (fun xr4 g4 M4 hx4 hn4 hA4 e4 => ?_)
  have hYa4 := Yd.f0 hY e4
  have f4 := Fr.trans f0 (Fr.of0 e4)
  have hl4 : xr4 < 100 + gN g4 := by omega
  have hWn5 := CW.f0 hW e4
  refine ok_dup (pc' := 77) i215_76 rfl rfl <| ok_iconst (pc' := 78) i215_77 rfl <| ok_iload (pc' := 80) i215_78 rfl rfl <| ?_
  have b6 := hA4.2.1
  refine ok_iastore (pc' := 81) i215_80 (hA4.1) (rfl) (by omega) rfl <| ?_
  have e7 := Fr.up (x := 0) (v := v) e4 (Or.inr (Nat.le_of_eq hx4))
  have hYa7 := Yd.f0 hY e7
  have f7 := Fr.trans f0 (Fr.of0 e7)
  have hA7 := IA.up (x := 0) (v := v) hA4
  have hWn8 := CW.f0 hW e7
  have hRV : RowV 1 (upI (fun _ => 0) 0 v) := RowV1 ⟨by omega, by omega⟩
  refine ok_cc i215_81 rfl (cl_v o215 m13_260 na200 rfl rfl (bt rfl) (bt rfl) rfl (by rw [hYa7.gr.ky, o200])) ln200 (pd200 (aR 101) (aR (A.R r)) (aR xr4)) <| (Ok.deep (t200 hYa7 hV (k := r) hr hA7 hRV) (by omega)).mono (fun o9 g27l M27l p27l => ?_)
  obtain ⟨rfl, eg27l, em27l⟩ := p27l
  rw [eg27l, em27l]
  rw [left_1 hV upI_eq (by omega) hr, if_pos hl]
  refine kt_v (pc' := 84) rfl <| ok_kz0 (pc1 := 111) (pc2 := 87) i215_84 (by decide) rfl rfl <| ok_aloadn (pc' := 88) i215_87 rfl rfl <| ok_bipush (v := 16) (pc' := 90) i215_88 rfl rfl <| ok_aloadn (pc' := 91) i215_90 rfl rfl <| ok_getfi (v := r) (pc' := 94) i215_91 o215 gi13_253 ((hYa7.gr.rr r (by omega) (by omega)).2.2) ((hYa7.mr.rn r (by omega) (by omega))) rfl <| ok_iload (pc' := 96) i215_94 rfl rfl <| ok_iconst (pc' := 97) i215_96 rfl <| ?_
  refine ok_iconst (pc' := 98) i215_97 rfl <| ?_
  refine ok_cc i215_98 rfl (cl_s o215 m13_234 na211 rfl rfl (bt rfl) (bt rfl) rfl) ln211 (pd211 (aR O) (aI 16) (aI r) (aI v) (aI 0) (aI 0)) <| (Ok.deep (t211_3 (k212_16 (lev := 2) (ShYard_k0 hWn8.1.y) (by omega) (y143_x1 (Y := O) (P := O + 38) (A := O + 49) (V := O + 73) (T := O + 74) (K := O + 100) (H := O + 102) (X := O + 346) (x1 := r) (x2 := v) hWn8.1.y hWn8.1.w hWn8.1.p hWn8.1.s hWn8.2.1.p hWn8.2.1.s hQ hV hr ⟨by omega, by omega⟩ hl hWn8.2.1.l))) (by omega)).mono (fun o9 g28t M28t p28t => ?_)
  obtain ⟨rfl, eg28t, em28t⟩ := p28t
  have et28 := Fr.xx eg28t em28t
  have hYc9 := Yd.f0 hYa7 et28
  have hWc9 := CW.f0 hWn8 et28
  have f9 := Fr.trans f7 (Fr.of0 et28)
  have hB9xr4 := IA.fr hA7 et28 hl4 (fun e => e)
  have hl9xr4 := Nat.lt_of_lt_of_le hl4 (Nat.add_le_add_left et28.n 100)
  refine kt_v (pc' := 101) rfl <| ok_iconst (pc' := 102) i215_101 rfl <| ok_kc0 (pc1 := 109) (pc2 := 105) i215_102 (by decide) rfl rfl <| ok_iconst (pc' := 106) i215_105 rfl <| ok_goto (pc' := 110) i215_106 rfl <| ok_iretz i215_110 rt215 (by decide) <| ?_
  exact hret _ _ _ _ hYc9 (CW.up hWc9 ⟨by omega, by omega⟩) (h542) (h40) (Fr.w f9 (by omega) (by omega))
theorem w215_cut1b {g : AG} {M : AM} {O : Nat} {A : YA} {s q : Int → Int} {b : Int} {d : Nat} {w v r : Int} {Q : AO → AG → AM → Prop} (hY : Yd g M O A s q) (hW : CW g M O b q s) (hv : 1 ≤ v ∧ v ≤ 7) (hr : 0 ≤ r ∧ r < s 3) (h542 : s 542 = 0) (h40 : s 3 ≤ 40) (hb : b + 6 ≤ 200) (hw : 12 ≤ w ∧ q 1 = 0) (hw13 : w ≤ 13) (hl : ¬ (s (94 + r) < v)) (hret : ∀ (g1 : AG) (M1 : AM) (A1 : YA) (s1 : Int → Int), Yd g1 M1 O A1 s1 q → CW g1 M1 O (b + 6) q s1 → s1 542 = 0 → s1 3 ≤ 40 → Fr FA 8800 198800 g M g1 M1 → Q (.inl (some (aI 1))) g1 M1) : Ok (d + 12) 215 0 [aR O, aR 101, aR (A.R r), aI w, aI v, aU, aU, aU, aU, aU, aU] [] g M Q := by
  have hV := hW.2.1.v
  have hQ := V_q hV
  have y3 := V_3 hV
  have y4 := V_4 hV
  have y5 := V_5 hV
  have yq0 := Q_0 hQ
  have yq1 := Q_1 hQ
  have y0 := hV.2.1
  have yb := V_b hV
  have y1 := V_1 hV
  have y2 := V_2 hV
  have f0 : Fr FA 0 0 g M g M := Fr.rfl
  have z1 := V_d1 hV hr.1 hr.2
  have z2 := V_d2 hV hr.1 hr.2
  have hw13 : w ≤ 13 := hw13
  refine ok_iloadn (pc' := 1) i215_0 rfl rfl <| ok_bipush (v := 9) (pc' := 3) i215_1 rfl rfl <| ?_
  refine ok_cne (pc1 := 58) (pc2 := 6) i215_3 (by omega) rfl rfl (fun h1 => ?_) (fun h9 => by exfalso; omega)
  refine ok_iloadn (pc' := 59) i215_58 rfl rfl <| ok_bipush (v := 12) (pc' := 61) i215_59 rfl rfl <| ?_
  refine ok_clt (pc1 := 71) (pc2 := 64) i215_61 (by omega) rfl rfl (fun h9 => by exfalso; omega) (fun h2 => ?_)
  refine ok_aloadn (pc' := 65) i215_64 rfl rfl <| ok_getfi (v := (q 1)) (pc' := 68) i215_65 o215 gi13_257 (hY.gr.ky) (hY.mr.q1) rfl <| ?_
  refine ok_zne (pc1 := 137) (pc2 := 71) i215_68 (by omega) rfl rfl (fun h9 => by exfalso; omega) (fun h3 => ?_)
  refine ok_aloadn (pc' := 72) i215_71 rfl rfl <| ok_aloadn (pc' := 73) i215_72 rfl rfl <| ok_iconst (pc' := 74) i215_73 rfl <| ?_
  refine ok_nia (pc' := 76) i215_74 (by decide) rfl (fun xr4 g4 M4 hx4 hn4 hA4 e4 => ?_)
  have hYa4 := Yd.f0 hY e4
  have f4 := Fr.trans f0 (Fr.of0 e4)
  have hl4 : xr4 < 100 + gN g4 := by omega
  have hWn5 := CW.f0 hW e4
  refine ok_dup (pc' := 77) i215_76 rfl rfl <| ok_iconst (pc' := 78) i215_77 rfl <| ok_iload (pc' := 80) i215_78 rfl rfl <| ?_
  have b6 := hA4.2.1
  refine ok_iastore (pc' := 81) i215_80 (hA4.1) (rfl) (by omega) rfl <| ?_
  have e7 := Fr.up (x := 0) (v := v) e4 (Or.inr (Nat.le_of_eq hx4))
  have hYa7 := Yd.f0 hY e7
  have f7 := Fr.trans f0 (Fr.of0 e7)
  have hA7 := IA.up (x := 0) (v := v) hA4
  have hWn8 := CW.f0 hW e7
  have hRV : RowV 1 (upI (fun _ => 0) 0 v) := RowV1 ⟨by omega, by omega⟩
  refine ok_cc i215_81 rfl (cl_v o215 m13_260 na200 rfl rfl (bt rfl) (bt rfl) rfl (by rw [hYa7.gr.ky, o200])) ln200 (pd200 (aR 101) (aR (A.R r)) (aR xr4)) <| (Ok.deep (t200 hYa7 hV (k := r) hr hA7 hRV) (by omega)).mono (fun o9 g29l M29l p29l => ?_)
  obtain ⟨rfl, eg29l, em29l⟩ := p29l
  rw [eg29l, em29l]
  rw [left_1 hV upI_eq (by omega) hr, if_neg hl]
  refine kt_v (pc' := 84) rfl <| ?_
  refine ok_zge (pc1 := 111) (pc2 := 87) i215_84 (by omega) rfl rfl (fun h9 => ?_) (fun h9 => by exfalso; omega)
  refine ok_aloadn (pc' := 112) i215_111 rfl rfl <| ok_aloadn (pc' := 113) i215_112 rfl rfl <| ok_getfi (v := r) (pc' := 116) i215_113 o215 gi13_253 ((hYa7.gr.rr r (by omega) (by omega)).2.2) ((hYa7.mr.rn r (by omega) (by omega))) rfl <| ok_iload (pc' := 118) i215_116 rfl rfl <| ?_
  refine ok_cc i215_118 rfl (cl_v o215 m13_83 na143 rfl rfl (bt rfl) (bt rfl) rfl (by rw [(ShYard_k0 hWn8.1.y), o143])) ln143 (pd143 (aR O) (aI r) (aI v)) <| (Ok.deep (y143 (x1 := r) (x2 := v) hWn8.1 hWn8.2.1 hr ⟨by omega, by omega⟩ z1 (by omega) y1) (by omega)).mono (fun o9 g30c M30c p30c => ?_)
  obtain ⟨rfl, eg30, hMc30, hWr30⟩ := p30c
  rw [eg30]
  have hYk30 := Yd.fc hYa7 (Fr.wr hWr30)
  have hWk30 := CW.ch hWn8 hMc30
  have fk30 := Fr.trans f7 (fa_c hYa7.gr.o hWr30)
  refine kt_v (pc' := 121) rfl <| ok_aloadn (pc' := 122) i215_121 rfl rfl <| ok_aloadn (pc' := 123) i215_122 rfl rfl <| ok_iload (pc' := 125) i215_123 rfl rfl <| ?_
  refine ok_cc i215_125 rfl (cl_v o215 m13_263 na203 rfl rfl (bt rfl) (bt rfl) rfl (by rw [hYk30.gr.ky, o203])) ln203 (pd203 (aR 101) (aR (A.R r)) (aI v)) <| (Ok.deep (t203 (k := r) (x := v) hYk30 hV hWk30.2.2 hr ⟨by omega, by omega⟩) (by omega)).mono (fun o9 g31c M31c p31c => ?_)
  obtain ⟨rfl, hYk31, e31k⟩ := p31c
  have hWk31 := CW.fy hWk30 e31k
  have fk31 := Fr.trans fk30 (fa_y e31k)
  refine kt_v (pc' := 128) rfl <| ok_cnes (pc1 := 135) (pc2 := 131) i215_128 rfl rfl <| ok_iconst (pc' := 132) i215_131 rfl <| ok_goto (pc' := 136) i215_132 rfl <| ok_iretz i215_136 rt215 (by decide) <| ?_
  exact hret _ _ _ _ hYk31 (CW.up hWk31 ⟨by omega, by omega⟩) ((cut_542 hV hr ⟨by omega, by omega⟩).trans h542) (by rw [cut_13 hV hr (by omega) (by omega)]; exact h40) (Fr.w fk31 (by omega) (by omega))
theorem w215_pat0 {g : AG} {M : AM} {O : Nat} {A : YA} {s q : Int → Int} {b : Int} {d : Nat} {w v r p : Int} {Q : AO → AG → AM → Prop} (hY : Yd g M O A s q) (hW : CW g M O b q s) (hv : 1 ≤ v ∧ v ≤ 7) (hr : 0 ≤ r ∧ r < s 3) (h542 : s 542 = 0) (h40 : s 3 ≤ 40) (hb : b + 6 ≤ 200) (hw : 12 ≤ w ∧ w ≤ 13) (hpv : p = (Int.tmod v (q 1))) (hp : 0 ≤ p ∧ p < q 1) (hf : r37 q s p r = -1) (hret : ∀ (g1 : AG) (M1 : AM) (A1 : YA) (s1 : Int → Int), Yd g1 M1 O A1 s1 q → CW g1 M1 O (b + 6) q s1 → s1 542 = 0 → s1 3 ≤ 40 → Fr FA 8800 198800 g M g1 M1 → Q (.inl (some (aI 1))) g1 M1) : Ok (d + 12) 215 0 [aR O, aR 101, aR (A.R r), aI w, aI v, aU, aU, aU, aU, aU, aU] [] g M Q := by
  have hV := hW.2.1.v
  have hQ := V_q hV
  have y3 := V_3 hV
  have y4 := V_4 hV
  have y5 := V_5 hV
  have yq0 := Q_0 hQ
  have yq1 := Q_1 hQ
  have y0 := hV.2.1
  have yb := V_b hV
  have y1 := V_1 hV
  have y2 := V_2 hV
  have f0 : Fr FA 0 0 g M g M := Fr.rfl
  have z1 := V_d1 hV hr.1 hr.2
  have z2 := V_d2 hV hr.1 hr.2
  refine ok_iloadn (pc' := 1) i215_0 rfl rfl <| ok_bipush (v := 9) (pc' := 3) i215_1 rfl rfl <| ?_
  refine ok_cne (pc1 := 58) (pc2 := 6) i215_3 (by omega) rfl rfl (fun h1 => ?_) (fun h9 => by exfalso; omega)
  refine ok_iloadn (pc' := 59) i215_58 rfl rfl <| ok_bipush (v := 12) (pc' := 61) i215_59 rfl rfl <| ?_
  refine ok_clt (pc1 := 71) (pc2 := 64) i215_61 (by omega) rfl rfl (fun h9 => by exfalso; omega) (fun h2 => ?_)
  refine ok_aloadn (pc' := 65) i215_64 rfl rfl <| ok_getfi (v := (q 1)) (pc' := 68) i215_65 o215 gi13_257 (hY.gr.ky) (hY.mr.q1) rfl <| ?_
  refine ok_zne (pc1 := 137) (pc2 := 71) i215_68 (by omega) rfl rfl (fun h3 => ?_) (fun h9 => by exfalso; omega)
  refine ok_aloadn (pc' := 138) i215_137 rfl rfl <| ok_getfr (r := 105) (pc' := 141) i215_138 o215 gr13_266 (hY.gr.ky) (hY.gr.r2) rfl <| ok_iload (pc' := 143) i215_141 rfl rfl <| ok_aloadn (pc' := 144) i215_143 rfl rfl <| ok_getfi (v := (q 1)) (pc' := 147) i215_144 o215 gi13_257 (hY.gr.ky) (hY.mr.q1) rfl <| ok_iremp (v := (Int.tmod v (q 1))) (pc' := 148) i215_147 (by omega) rfl rfl <| ?_
  have z4 : 0 ≤ (Int.tmod v (q 1)) ∧ (Int.tmod v (q 1)) < (q 1) := tmod_lt (by omega) (by omega)
  rw [← hpv]
  refine ok_aaload (r := (A.P p)) (pc' := 149) i215_148 (hY.gr.k5) (by decide) (hY.gr.l5) (by omega) ((hY.gr.pp p (by omega) (by omega)).1) rfl <| ok_astore (pc' := 151) (ls' := [aR O, aR 101, aR (A.R r), aI w, aI v, aR (A.P p), aU, aU, aU, aU, aU]) i215_149 (bt rfl) rfl rfl <| ok_aloadn (pc' := 152) i215_151 rfl rfl <| ok_aloadn (pc' := 153) i215_152 rfl rfl <| ok_aload (pc' := 155) i215_153 rfl rfl <| ?_
  refine ok_cc i215_155 rfl (cl_v o215 m13_260 na200 rfl rfl (bt rfl) (bt rfl) rfl (by rw [hY.gr.ky, o200])) ln200 (pd200 (aR 101) (aR (A.R r)) (aR (A.P p))) <| (Ok.deep (t200 hY hV (k := r) hr (hY.ip (p := p) hp.1 hp.2) (ptV hQ hp)) (by omega)).mono (fun o9 g32l M32l p32l => ?_)
  obtain ⟨rfl, eg32l, em32l⟩ := p32l
  rw [eg32l, em32l]
  rw [lf_222 hV hp hr]
  refine kt_v (pc' := 158) rfl <| ?_
  refine ok_zge (pc1 := 190) (pc2 := 161) i215_158 (by omega) rfl rfl (fun h9 => by exfalso; omega) (fun h5 => ?_)
  refine ok_aloadn (pc' := 162) i215_161 rfl rfl <| ok_bipush (v := 17) (pc' := 164) i215_162 rfl rfl <| ok_iload (pc' := 166) i215_164 rfl rfl <| ok_aloadn (pc' := 167) i215_166 rfl rfl <| ok_getfi (v := (q 1)) (pc' := 170) i215_167 o215 gi13_257 (hY.gr.ky) (hY.mr.q1) rfl <| ok_iremp (v := (Int.tmod v (q 1))) (pc' := 171) i215_170 (by omega) rfl rfl <| ?_
  rw [← hpv]
  refine ok_aloadn (pc' := 172) i215_171 rfl rfl <| ok_getfi (v := r) (pc' := 175) i215_172 o215 gi13_253 ((hY.gr.rr r (by omega) (by omega)).2.2) ((hY.mr.rn r (by omega) (by omega))) rfl <| ok_iconst (pc' := 176) i215_175 rfl <| ok_iconst (pc' := 177) i215_176 rfl <| ?_
  refine ok_cc i215_177 rfl (cl_s o215 m13_234 na211 rfl rfl (bt rfl) (bt rfl) rfl) ln211 (pd211 (aR O) (aI 17) (aI p) (aI r) (aI 0) (aI 0)) <| (Ok.deep (t211_3 (k212_17 (lev := 3) (ShYard_k0 hW.1.y) (by omega) (y144_x1 (Y := O) (P := O + 38) (A := O + 49) (V := O + 73) (T := O + 74) (K := O + 100) (H := O + 102) (X := O + 346) (x1 := p) (x2 := r) hW.1.y hW.1.w hW.1.p hW.1.s hW.2.1.p hW.2.1.s hQ hV hp hr hf hW.2.1.l))) (by omega)).mono (fun o9 g33t M33t p33t => ?_)
  obtain ⟨rfl, eg33t, em33t⟩ := p33t
  have et33 := Fr.xx eg33t em33t
  have hYc6 := Yd.f0 hY et33
  have hWc6 := CW.f0 hW et33
  have f6 := Fr.trans f0 (Fr.of0 et33)
  refine kt_v (pc' := 180) rfl <| ok_iconst (pc' := 181) i215_180 rfl <| ok_kc0 (pc1 := 188) (pc2 := 184) i215_181 (by decide) rfl rfl <| ok_iconst (pc' := 185) i215_184 rfl <| ok_goto (pc' := 189) i215_185 rfl <| ok_iretz i215_189 rt215 (by decide) <| ?_
  exact hret _ _ _ _ hYc6 (CW.up hWc6 ⟨by omega, by omega⟩) (h542) (h40) (Fr.w f6 (by omega) (by omega))
theorem w215_pat1 {g : AG} {M : AM} {O : Nat} {A : YA} {s q : Int → Int} {b : Int} {d : Nat} {w v r p : Int} {Q : AO → AG → AM → Prop} (hY : Yd g M O A s q) (hW : CW g M O b q s) (hv : 1 ≤ v ∧ v ≤ 7) (hr : 0 ≤ r ∧ r < s 3) (h542 : s 542 = 0) (h40 : s 3 ≤ 40) (hb : b + 6 ≤ 200) (hw : 12 ≤ w ∧ w ≤ 13) (hpv : p = (Int.tmod v (q 1))) (hp : 0 ≤ p ∧ p < q 1) (hf : 0 ≤ r37 q s p r ∧ r37 q s p r ≤ 200) (K : Ok (d + 12) 215 205 [aR O, aR 101, aR (A.R r), aI w, aI v, aR (A.P p), aI 0, aR (A.P p), aI (q (10 + p)), aI 0, aU] [] g M Q) : Ok (d + 12) 215 0 [aR O, aR 101, aR (A.R r), aI w, aI v, aU, aU, aU, aU, aU, aU] [] g M Q := by
  have hV := hW.2.1.v
  have hQ := V_q hV
  have y3 := V_3 hV
  have y4 := V_4 hV
  have y5 := V_5 hV
  have yq0 := Q_0 hQ
  have yq1 := Q_1 hQ
  have y0 := hV.2.1
  have yb := V_b hV
  have y1 := V_1 hV
  have y2 := V_2 hV
  have f0 : Fr FA 0 0 g M g M := Fr.rfl
  have z1 := V_d1 hV hr.1 hr.2
  have z2 := V_d2 hV hr.1 hr.2
  have hq10 := Q_10 hQ hp.1 hp.2
  refine ok_iloadn (pc' := 1) i215_0 rfl rfl <| ok_bipush (v := 9) (pc' := 3) i215_1 rfl rfl <| ?_
  refine ok_cne (pc1 := 58) (pc2 := 6) i215_3 (by omega) rfl rfl (fun h1 => ?_) (fun h9 => by exfalso; omega)
  refine ok_iloadn (pc' := 59) i215_58 rfl rfl <| ok_bipush (v := 12) (pc' := 61) i215_59 rfl rfl <| ?_
  refine ok_clt (pc1 := 71) (pc2 := 64) i215_61 (by omega) rfl rfl (fun h9 => by exfalso; omega) (fun h2 => ?_)
  refine ok_aloadn (pc' := 65) i215_64 rfl rfl <| ok_getfi (v := (q 1)) (pc' := 68) i215_65 o215 gi13_257 (hY.gr.ky) (hY.mr.q1) rfl <| ?_
  refine ok_zne (pc1 := 137) (pc2 := 71) i215_68 (by omega) rfl rfl (fun h3 => ?_) (fun h9 => by exfalso; omega)
  refine ok_aloadn (pc' := 138) i215_137 rfl rfl <| ok_getfr (r := 105) (pc' := 141) i215_138 o215 gr13_266 (hY.gr.ky) (hY.gr.r2) rfl <| ok_iload (pc' := 143) i215_141 rfl rfl <| ok_aloadn (pc' := 144) i215_143 rfl rfl <| ok_getfi (v := (q 1)) (pc' := 147) i215_144 o215 gi13_257 (hY.gr.ky) (hY.mr.q1) rfl <| ok_iremp (v := (Int.tmod v (q 1))) (pc' := 148) i215_147 (by omega) rfl rfl <| ?_
  have z4 : 0 ≤ (Int.tmod v (q 1)) ∧ (Int.tmod v (q 1)) < (q 1) := tmod_lt (by omega) (by omega)
  rw [← hpv]
  refine ok_aaload (r := (A.P p)) (pc' := 149) i215_148 (hY.gr.k5) (by decide) (hY.gr.l5) (by omega) ((hY.gr.pp p (by omega) (by omega)).1) rfl <| ok_astore (pc' := 151) (ls' := [aR O, aR 101, aR (A.R r), aI w, aI v, aR (A.P p), aU, aU, aU, aU, aU]) i215_149 (bt rfl) rfl rfl <| ok_aloadn (pc' := 152) i215_151 rfl rfl <| ok_aloadn (pc' := 153) i215_152 rfl rfl <| ok_aload (pc' := 155) i215_153 rfl rfl <| ?_
  refine ok_cc i215_155 rfl (cl_v o215 m13_260 na200 rfl rfl (bt rfl) (bt rfl) rfl (by rw [hY.gr.ky, o200])) ln200 (pd200 (aR 101) (aR (A.R r)) (aR (A.P p))) <| (Ok.deep (t200 hY hV (k := r) hr (hY.ip (p := p) hp.1 hp.2) (ptV hQ hp)) (by omega)).mono (fun o9 g34l M34l p34l => ?_)
  obtain ⟨rfl, eg34l, em34l⟩ := p34l
  rw [eg34l, em34l]
  rw [lf_222 hV hp hr]
  refine kt_v (pc' := 158) rfl <| ?_
  refine ok_zge (pc1 := 190) (pc2 := 161) i215_158 (by omega) rfl rfl (fun h5 => ?_) (fun h9 => by exfalso; omega)
  refine ok_iconst (pc' := 191) i215_190 rfl <| ok_istore (pc' := 193) (ls' := [aR O, aR 101, aR (A.R r), aI w, aI v, aR (A.P p), aI 0, aU, aU, aU, aU]) i215_191 (bt rfl) rfl rfl <| ok_aload (pc' := 195) i215_193 rfl rfl <| ok_astore (pc' := 197) (ls' := [aR O, aR 101, aR (A.R r), aI w, aI v, aR (A.P p), aI 0, aR (A.P p), aU, aU, aU]) i215_195 (bt rfl) rfl rfl <| ok_aload (pc' := 199) i215_197 rfl rfl <| ok_arrlen (v := (q (10 + p))) (pc' := 200) i215_199 ((hY.gr.pp p (by omega) (by omega)).2.2.1) (by decide) ((hY.gr.pp p (by omega) (by omega)).2.2.2) rfl <| ok_istore (pc' := 202) (ls' := [aR O, aR 101, aR (A.R r), aI w, aI v, aR (A.P p), aI 0, aR (A.P p), aI (q (10 + p)), aU, aU]) i215_200 (bt rfl) rfl rfl <| ok_iconst (pc' := 203) i215_202 rfl <| ?_
  refine ok_istore (pc' := 205) (ls' := [aR O, aR 101, aR (A.R r), aI w, aI v, aR (A.P p), aI 0, aR (A.P p), aI (q (10 + p)), aI 0, aU]) i215_203 (bt rfl) rfl rfl <| ?_
  exact K
theorem w215_205 {g : AG} {M : AM} {O : Nat} {A : YA} {s q : Int → Int} {b : Int} {d : Nat} {w v r p : Int} {Q : AO → AG → AM → Prop} (hY : Yd g M O A s q) (hW : CW g M O b q s) (hr : 0 ≤ r ∧ r < s 3) (hb : b + 6 ≤ 200) (hp : 0 ≤ p ∧ p < q 1) (hf : r37 q s p r ≠ -1) (K : ∀ (g1 : AG) (M1 : AM) (w10 : AV), am_cat w10 = 1 → Yd g1 M1 O A (patS q s p r) q → CW g1 M1 O b q s → Fr FA 6 24 g M g1 M1 → Ok (d + 12) 215 245 [aR O, aR 101, aR (A.R r), aI w, aI v, aR (A.P p), aI (patN q s p r), aR (A.P p), aI (q (10 + p)), aI (q (10 + p)), w10] [] g1 M1 Q) : Ok (d + 12) 215 205 [aR O, aR 101, aR (A.R r), aI w, aI v, aR (A.P p), aI 0, aR (A.P p), aI (q (10 + p)), aI 0, aU] [] g M Q := by
  have hV := hW.2.1.v
  have hQ := V_q hV
  have y3 := V_3 hV
  have y4 := V_4 hV
  have y5 := V_5 hV
  have yq0 := Q_0 hQ
  have yq1 := Q_1 hQ
  have y0 := hV.2.1
  have yb := V_b hV
  have hq10 := Q_10 hQ hp.1 hp.2
  refine ok_lp (σ := Nat) (fun n ls g9 M9 => n ≤ (q (10 + p)).toNat ∧ ∃ (j c : Int) (t : Int → Int), j = (n : Int) ∧ (t, c) = itv (patF q p r) (s, 0) 0 n ∧ Yd g9 M9 O A t q ∧ CW g9 M9 O b q s ∧ Fr FA n (4 * n) g M g9 M9 ∧ ∃ w10 : AV, am_cat w10 = 1 ∧ ls = [aR O, aR 101, aR (A.R r), aI w, aI v, aR (A.P p), aI c, aR (A.P p), aI (q (10 + p)), aI j, w10]) (fun n => (q (10 + p)).toNat - n) ?_ 0 _ g M ⟨Nat.zero_le _, 0, 0, s, rfl, rfl, hY, hW, Fr.w Fr.rfl (by omega) (by omega), aU, rfl, rfl⟩
  rintro n ls g9 M9 ⟨hn, j, c, t, hj, ha, hY, hW, hfr, w10, hw10, rfl⟩ ih
  by_cases hj9 : j = q (10 + p)
  · have hn9 : n = (q (10 + p)).toNat := by omega
    have hS : t = patS q s p r := by unfold patS patL; rw [← hn9, ← ha]
    have hN : c = patN q s p r := by unfold patN patL; rw [← hn9, ← ha]
    have KK_ := K _ _ w10 hw10 (by rw [← hS]; exact hY) hW (Fr.w hfr (by omega) (by omega))
    rw [hN, hj9]
    refine ok_iload (pc' := 207) i215_205 rfl rfl <| ok_iload (pc' := 209) i215_207 rfl rfl <| ?_
    refine ok_cge (pc1 := 245) (pc2 := 212) i215_209 (by omega) rfl rfl (fun h1 => ?_) (fun h9 => by exfalso; omega)
    exact KK_
  have hj2 : 0 ≤ j ∧ j < q (10 + p) := by omega
  obtain ⟨i1, i2, i3, i4⟩ := V_patN hV hp hr hf (by omega) n (by omega)
  rw [← ha] at i1 i2 i3 i4
  have hVt : Val (b + (n : Int)) q t := i1
  have ht3 : t 3 = s 3 := i4
  have hst := pat_step (c := c) hVt hp hr i3 i4 (by omega) hf hj2 (by rw [show j.toNat = n by omega]; exact i2)
  have hx1 := hst.2.2.2.2
  have hx2 := Q_16 hQ hp.1 hp.2 hj2.1 hj2.2
  have hro := r218_rg hVt (x := q (16 + ((6 * p) + j))) (by omega)
  have hro2 : -1 ≤ r218 t (q (16 + ((6 * p) + j))) ∧ r218 t (q (16 + ((6 * p) + j))) < 16 := by omega
  refine ok_iload (pc' := 207) i215_205 rfl rfl <| ok_iload (pc' := 209) i215_207 rfl rfl <| ?_
  refine ok_cge (pc1 := 245) (pc2 := 212) i215_209 (by omega) rfl rfl (fun h9 => by exfalso; omega) (fun h1 => ?_)
  refine ok_aload (pc' := 214) i215_212 rfl rfl <| ok_iload (pc' := 216) i215_214 rfl rfl <| ?_
  have b2 := (hY.gr.pp p (by omega) (by omega)).2.2.2
  have z3 : 1 ≤ q (16 + ((6 * p) + j)) ∧ q (16 + ((6 * p) + j)) ≤ 200 := Q_16 hQ (by omega) (by omega) (by omega) (by omega)
  refine ok_iaload (v := (q (16 + ((6 * p) + j)))) (pc' := 217) i215_216 ((hY.gr.pp p (by omega) (by omega)).2.2.1) (by decide) (rfl) (by omega) ((hY.mr.pp p (by omega) (by omega) j (by omega) (by omega))) rfl <| ok_istore (pc' := 219) (ls' := [aR O, aR 101, aR (A.R r), aI w, aI v, aR (A.P p), aI c, aR (A.P p), aI (q (10 + p)), aI j, aI (q (16 + ((6 * p) + j)))]) i215_217 (bt rfl) rfl rfl <| ok_iload (pc' := 221) i215_219 rfl rfl <| ok_aloadn (pc' := 222) i215_221 rfl rfl <| ok_aloadn (pc' := 223) i215_222 rfl rfl <| ok_iload (pc' := 225) i215_223 rfl rfl <| ?_
  refine ok_cc i215_225 rfl (cl_v o215 m13_263 na203 rfl rfl (bt rfl) (bt rfl) rfl (by rw [hY.gr.ky, o203])) ln203 (pd203 (aR 101) (aR (A.R r)) (aI (q (16 + ((6 * p) + j))))) <| (Ok.deep (t203 (k := r) (x := q (16 + ((6 * p) + j))) hY hVt hW.2.2 ⟨hr.1, by omega⟩ ⟨by omega, by omega⟩) (by omega)).mono (fun o9 g35c M35c p35c => ?_)
  obtain ⟨rfl, hYk35, e35k⟩ := p35c
  have hWk35 := CW.fy hW e35k
  have fk35 := Fr.trans hfr (fa_y e35k)
  refine kt_v (pc' := 228) rfl <| ?_
  refine ok_zge (pc1 := 235) (pc2 := 231) i215_228 (by omega) rfl rfl (fun h4 => ?_) (fun h4 => ?_)
  · refine ok_iconst (pc' := 236) i215_235 rfl <| ok_iadd (v := (c + 0)) (pc' := 237) i215_236 rfl rfl <| ok_istore (pc' := 239) (ls' := [aR O, aR 101, aR (A.R r), aI w, aI v, aR (A.P p), aI (c + 0), aR (A.P p), aI (q (10 + p)), aI j, aI (q (16 + ((6 * p) + j)))]) i215_237 (bt rfl) rfl rfl <| ok_iinc (pc' := 242) (v := (j + 1)) (ls' := [aR O, aR 101, aR (A.R r), aI w, aI v, aR (A.P p), aI (c + 0), aR (A.P p), aI (q (10 + p)), aI (j + 1), aI (q (16 + ((6 * p) + j)))]) i215_239 rfl rfl rfl rfl <| ok_goto (pc' := 205) i215_242 rfl <| ?_
    have hst : (itv (patF q p r) (s, 0) 0 (n + 1)).2 = (c + 0) := by rw [itv_1 hj, ← ha]; show (if r218 t (q (16 + ((6 * p) + j))) = -1 then c + 1 else c) = _; split <;> omega
    exact ih (n + 1) _ _ _ (by omega) ⟨by omega, j + 1, (itv (patF q p r) (s, 0) 0 (n + 1)).2, (itv (patF q p r) (s, 0) 0 (n + 1)).1, by omega, rfl, Yd.ext hYk35 (fun y => by rw [itv_1 hj, ← ha]; rfl), hWk35, Fr.w fk35 (by omega) (by omega), _, rfl, by rw [hst]⟩
  · refine ok_iconst (pc' := 232) i215_231 rfl <| ok_goto (pc' := 236) i215_232 rfl <| ok_iadd (v := (c + 1)) (pc' := 237) i215_236 rfl rfl <| ok_istore (pc' := 239) (ls' := [aR O, aR 101, aR (A.R r), aI w, aI v, aR (A.P p), aI (c + 1), aR (A.P p), aI (q (10 + p)), aI j, aI (q (16 + ((6 * p) + j)))]) i215_237 (bt rfl) rfl rfl <| ok_iinc (pc' := 242) (v := (j + 1)) (ls' := [aR O, aR 101, aR (A.R r), aI w, aI v, aR (A.P p), aI (c + 1), aR (A.P p), aI (q (10 + p)), aI (j + 1), aI (q (16 + ((6 * p) + j)))]) i215_239 rfl rfl rfl rfl <| ok_goto (pc' := 205) i215_242 rfl <| ?_
    have hst : (itv (patF q p r) (s, 0) 0 (n + 1)).2 = (c + 1) := by rw [itv_1 hj, ← ha]; show (if r218 t (q (16 + ((6 * p) + j))) = -1 then c + 1 else c) = _; split <;> omega
    exact ih (n + 1) _ _ _ (by omega) ⟨by omega, j + 1, (itv (patF q p r) (s, 0) 0 (n + 1)).2, (itv (patF q p r) (s, 0) 0 (n + 1)).1, by omega, rfl, Yd.ext hYk35 (fun y => by rw [itv_1 hj, ← ha]; rfl), hWk35, Fr.w fk35 (by omega) (by omega), _, rfl, by rw [hst]⟩
theorem w215_pat2 {g : AG} {M : AM} {O : Nat} {A : YA} {s q : Int → Int} {b : Int} {d : Nat} {w10 : AV} {w v r p : Int} {Q : AO → AG → AM → Prop} (hY : Yd g M O A (patS q s p r) q) (hW : CW g M O b q s) (hv : 1 ≤ v ∧ v ≤ 7) (hr : 0 ≤ r ∧ r < s 3) (h542 : s 542 = 0) (h40 : s 3 ≤ 40) (hb : b + 6 ≤ 200) (hw : 12 ≤ w ∧ w ≤ 13) (hpv : p = (Int.tmod v (q 1))) (hp : 0 ≤ p ∧ p < q 1) (hf : 0 ≤ r37 q s p r ∧ r37 q s p r ≤ 200) (hw10 : am_cat w10 = 1) (hret : ∀ (g1 : AG) (M1 : AM) (A1 : YA) (s1 : Int → Int), Yd g1 M1 O A1 s1 q → CW g1 M1 O (b + 6) q s1 → s1 542 = 0 → s1 3 ≤ 40 → Fr FA 8800 198800 g M g1 M1 → Q (.inl (some (aI 1))) g1 M1) : Ok (d + 12) 215 245 [aR O, aR 101, aR (A.R r), aI w, aI v, aR (A.P p), aI (patN q s p r), aR (A.P p), aI (q (10 + p)), aI (q (10 + p)), w10] [] g M Q := by
  have hV := hW.2.1.v
  have hQ := V_q hV
  have y3 := V_3 hV
  have y4 := V_4 hV
  have y5 := V_5 hV
  have yq0 := Q_0 hQ
  have yq1 := Q_1 hQ
  have y0 := hV.2.1
  have yb := V_b hV
  have y1 := V_1 hV
  have y2 := V_2 hV
  have f0 : Fr FA 0 0 g M g M := Fr.rfl
  have z1 := V_d1 hV hr.1 hr.2
  have z2 := V_d2 hV hr.1 hr.2
  have hp3 := (pat_542 hV hp hr (by omega) (by omega)).2
  refine ok_aloadn (pc' := 246) i215_245 rfl rfl <| ok_iload (pc' := 248) i215_246 rfl rfl <| ok_aloadn (pc' := 249) i215_248 rfl rfl <| ok_getfi (v := (q 1)) (pc' := 252) i215_249 o215 gi13_257 (hY.gr.ky) (hY.mr.q1) rfl <| ok_iremp (v := (Int.tmod v (q 1))) (pc' := 253) i215_252 (by omega) rfl rfl <| ?_
  have z1 : 0 ≤ (Int.tmod v (q 1)) ∧ (Int.tmod v (q 1)) < (q 1) := tmod_lt (by omega) (by omega)
  rw [← hpv]
  refine ok_aloadn (pc' := 254) i215_253 rfl rfl <| ok_getfi (v := r) (pc' := 257) i215_254 o215 gi13_253 ((hY.gr.rr r (by omega) (by omega)).2.2) ((hY.mr.rn r (by omega) (by omega))) rfl <| ?_
  refine ok_cc i215_257 rfl (cl_v o215 m13_86 na144 rfl rfl (bt rfl) (bt rfl) rfl (by rw [(ShYard_k0 hW.1.y), o144])) ln144 (pd144 (aR O) (aI p) (aI r)) <| (Ok.deep (y144 (x1 := p) (x2 := r) hW.1 hW.2.1 hp hr (by omega) (by omega) (by omega)) (by omega)).mono (fun o9 g36c M36c p36c => ?_)
  obtain ⟨rfl, eg36, hMc36, hWr36⟩ := p36c
  rw [eg36]
  have hYk36 := Yd.fc hY (Fr.wr hWr36)
  have hWk36 := CW.ch hW hMc36
  have fk36 := Fr.trans f0 (fa_c hY.gr.o hWr36)
  refine kt_v (pc' := 260) rfl <| ok_iload (pc' := 262) i215_260 rfl rfl <| ok_cnes (pc1 := 269) (pc2 := 265) i215_262 rfl rfl <| ok_iconst (pc' := 266) i215_265 rfl <| ok_goto (pc' := 270) i215_266 rfl <| ok_iretz i215_270 rt215 (by decide) <| ?_
  exact hret _ _ _ _ hYk36 (CW.up hWk36 ⟨by omega, by omega⟩) ((pat_542 hV hp hr (by omega) (by omega)).1.trans h542) (by rw [(pat_542 hV hp hr (by omega) (by omega)).2]; exact h40) (Fr.w fk36 (by omega) (by omega))
