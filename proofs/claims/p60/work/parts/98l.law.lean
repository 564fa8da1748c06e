/-! THE LAW: the text is told (by program, wip/p60/gen) -/
theorem m13_357 : am_mlk 13 357 0 95 = true := by decide +kernel
theorem na95 : am_na 95 = 0 := by decide +kernel
theorem nl95 : am_nL 95 = 1 := by decide +kernel
theorem pd95 : ∀ a0 : AV, am_pad 95 [a0] = [a0] := by intros; unfold am_pad; rw [nl95]; rfl
theorem ln95 : 1 ≤ am_nL 95 := by rw [nl95]; decide
theorem gr13_360 : am_gfr 13 360 17 0 = true := by decide +kernel
theorem m13_364 : am_mlk 13 364 0 190 = true := by decide +kernel
theorem na190 : am_na 190 = 0 := by decide +kernel
theorem nl190 : am_nL 190 = 1 := by decide +kernel
theorem pd190 : ∀ a0 : AV, am_pad 190 [a0] = [a0] := by intros; unfold am_pad; rw [nl190]; rfl
theorem ln190 : 1 ≤ am_nL 190 := by rw [nl190]; decide
theorem m13_368 : am_mlk 13 368 1 209 = true := by decide +kernel
theorem na209 : am_na 209 = 2 := by decide +kernel
theorem nl209 : am_nL 209 = 2 := by decide +kernel
theorem pd209 : ∀ a0 a1 : AV, am_pad 209 [a0, a1] = [a0, a1] := by intros; unfold am_pad; rw [nl209]; rfl
theorem ln209 : 2 ≤ am_nL 209 := by rw [nl209]; decide
theorem m13_372 : am_mlk 13 372 0 90 = true := by decide +kernel
theorem na90 : am_na 90 = 0 := by decide +kernel
theorem nl90 : am_nL 90 = 1 := by decide +kernel
theorem pd90 : ∀ a0 : AV, am_pad 90 [a0] = [a0] := by intros; unfold am_pad; rw [nl90]; rfl
theorem ln90 : 1 ≤ am_nL 90 := by rw [nl90]; decide
theorem m13_375 : am_mlk 13 375 0 91 = true := by decide +kernel
theorem na91 : am_na 91 = 0 := by decide +kernel
theorem nl91 : am_nL 91 = 1 := by decide +kernel
theorem pd91 : ∀ a0 : AV, am_pad 91 [a0] = [a0] := by intros; unfold am_pad; rw [nl91]; rfl
theorem ln91 : 1 ≤ am_nL 91 := by rw [nl91]; decide
theorem m13_378 : am_mlk 13 378 0 92 = true := by decide +kernel
theorem na92 : am_na 92 = 0 := by decide +kernel
theorem nl92 : am_nL 92 = 1 := by decide +kernel
theorem pd92 : ∀ a0 : AV, am_pad 92 [a0] = [a0] := by intros; unfold am_pad; rw [nl92]; rfl
theorem ln92 : 1 ≤ am_nL 92 := by rw [nl92]; decide
theorem m13_381 : am_mlk 13 381 1 213 = true := by decide +kernel
theorem na213 : am_na 213 = 2 := by decide +kernel
theorem nl213 : am_nL 213 = 6 := by decide +kernel
theorem pd213 : ∀ a0 a1 : AV, am_pad 213 [a0, a1] = [a0, a1, aU, aU, aU, aU] := by intros; unfold am_pad; rw [nl213]; rfl
theorem ln213 : 2 ≤ am_nL 213 := by rw [nl213]; decide
/-- before the text is told -/
def LTx (g : AG) (M : AM) (O L : Nat) (d : Int) (t : Tx) (A : YA) (s q : Int → Int) (V : Nat) (C : Int) (n z : Nat) : Prop := Yd g M O A s q ∧ CF g M O ∧ BS g M ∧ Dr g M L d ∧ SB g M 102 V C t ∧ gR g 101 0 = 102 ∧ gN g ≤ n ∧ gS g ≤ z
theorem LTx.f0 {nc ns n z : Nat} {g g1 : AG} {M M1 : AM} {O L V : Nat} {d C : Int} {t : Tx} {A : YA} {s q : Int → Int} (h : LTx g M O L d t A s q V C n z) (e : Fr FN nc ns g M g1 M1) : LTx g1 M1 O L d t A s q V C (n + nc) (z + ns) := by
  obtain ⟨h1, h2, h3, h4, h5, h6, h7, h8⟩ := h
  have hn := h1.gr.n
  exact ⟨h1.f0 e, h2.f0 e, h3.f0 e, h4.f0 e (by omega), h5.fr e (fun h => h) (fun h => h), by rw [e.r0 (by omega)]; exact h6, by have := e.2.1; omega, by have := e.2.2.1; omega⟩
/-- when it is loaded -/
def MTx (g : AG) (M : AM) (O L : Nat) (d b : Int) (A : YA) (s q : Int → Int) (n z : Nat) : Prop := Yd g M O A s q ∧ CW g M O b q s ∧ BS g M ∧ Dr g M L d ∧ s 542 = 0 ∧ s 3 ≤ 40 ∧ 1 ≤ q 0 ∧ gN g ≤ n ∧ gS g ≤ z
section MTx
variable {nc ns n z : Nat} {g g1 : AG} {M M1 : AM} {O L : Nat} {d b : Int} {A : YA} {s q : Int → Int}
theorem MTx.y (h : MTx g M O L d b A s q n z) : Yd g M O A s q := h.1
theorem MTx.w (h : MTx g M O L d b A s q n z) : CW g M O b q s := h.2.1
theorem MTx.bs (h : MTx g M O L d b A s q n z) : BS g M := h.2.2.1
theorem MTx.dr (h : MTx g M O L d b A s q n z) : Dr g M L d := h.2.2.2.1
theorem MTx.up {n' z' : Nat} (h : MTx g M O L d b A s q n z) (h1 : n ≤ n') (h2 : z ≤ z') : MTx g M O L d b A s q n' z' := by
  obtain ⟨a1, a2, a3, a4, a5, a6, a7, a8, a9⟩ := h
  exact ⟨a1, a2, a3, a4, a5, a6, a7, by omega, by omega⟩
theorem MTx.f0 (h : MTx g M O L d b A s q n z) (e : Fr FN nc ns g M g1 M1) : MTx g1 M1 O L d b A s q (n + nc) (z + ns) := by
  obtain ⟨a1, a2, a3, a4, a5, a6, a7, a8, a9⟩ := h
  have hn := a1.gr.n
  exact ⟨a1.f0 e, a2.f0 e, a3.f0 e, a4.f0 e (by omega), a5, a6, a7, by have := e.2.1; omega, by have := e.2.2.1; omega⟩
theorem MTx.fc (h : MTx g M O L d b A s q n z) (e : Fr (FC O) nc ns g M g1 M1) (hW : CW g1 M1 O b q s) : MTx g1 M1 O L d b A s q (n + nc) (z + ns) := by
  obtain ⟨a1, a2, a3, a4, a5, a6, a7, a8, a9⟩ := h
  have hn := a1.gr.n
  exact ⟨a1.fc e, hW, a3.fc e a1.gr.o, a4.fc e (by omega) a1.gr.o, a5, a6, a7, by have := e.2.1; omega, by have := e.2.2.1; omega⟩
end MTx
theorem law_26 {g : AG} {M : AM} {O L V : Nat} {d C : Int} {t : Tx} {A : YA} {s q : Int → Int} {dd : Nat} {Q : AO → AG → AM → Prop} (H : LTx g M O L d t A s q V C 600 20000) (hPI : PI t q s) (ht : t.1 ≤ 255) (hC : C ≤ 2000) (hq0 : 1 ≤ q 0) (K : ∀ (g1 : AG) (M1 : AM), MTx g1 M1 O L d 0 A s q 700 21000 → Ok (dd + 22) 0 148 [aR 1, aR 100, aR 101, aR O, aU] [] g1 M1 Q) : Ok (dd + 22) 0 26 [aR 1, aR 100, aR 101, aR O, aU] [] g M Q := by
  have hval := hPI.val
  have hY0 := H.1
  have hli := hY0.li
  refine ok_aloadn (pc' := 27) i0_26 rfl rfl <| ok_bipush (v := 31) (pc' := 29) i0_27 rfl rfl <| ok_iconst (pc' := 30) i0_29 rfl <| ok_iconst (pc' := 31) i0_30 rfl <| ok_iconst (pc' := 32) i0_31 rfl <| ok_iconst (pc' := 33) i0_32 rfl <| ?_
  have hC1 := H.2.1
  refine ok_cc i0_33 rfl (cl_s o0 m13_234 na211 rfl rfl (bt rfl) (bt rfl) rfl) ln211 (pd211 (aR O) (aI 31) (aI 0) (aI 0) (aI 0) (aI 0)) <| (Ok.deep (t211_1 (k212_31 (lev := 1) (ShYard_k0 hC1.1.y) (by omega) (y111_z (Y := O) (P := O + 38) (A := O + 49) (V := O + 73) (T := O + 74) (K := O + 100) (H := O + 102) (X := O + 346) hC1.1.y hC1.2.2.2.2.2.1))) (by omega)).mono (fun o9 g1t M1t p1t => ?_)
  obtain ⟨rfl, eg1, em1⟩ := p1t
  have H1 := LTx.f0 H (Fr.xx eg1 em1)
  have hY1 := H1.1
  refine kt_v (pc' := 36) rfl <| ok_iconst (pc' := 37) i0_36 rfl <| ok_kc0 (pc1 := 95) (pc2 := 40) i0_37 (by decide) rfl rfl <| ok_aloadn (pc' := 41) i0_40 rfl rfl <| ok_iconst (pc' := 42) i0_41 rfl <| ok_iconst (pc' := 43) i0_42 rfl <| ok_iconst (pc' := 44) i0_43 rfl <| ok_iconst (pc' := 45) i0_44 rfl <| ?_
  refine ok_iconst (pc' := 46) i0_45 rfl <| ?_
  have hC2 := H1.2.1
  refine ok_cc i0_46 rfl (cl_s o0 m13_234 na211 rfl rfl (bt rfl) (bt rfl) rfl) ln211 (pd211 (aR O) (aI 0) (aI 0) (aI 0) (aI 0) (aI 0)) <| (Ok.deep (t211_1 (k212_0 (lev := 1) (ShYard_k0 hC2.1.y) (by omega) (y98_z (Y := O) (P := O + 38) (A := O + 49) (V := O + 73) (T := O + 74) (K := O + 100) (H := O + 102) (X := O + 346) hC2.1.y hC2.2.2.2.2.2.1))) (by omega)).mono (fun o9 g2t M2t p2t => ?_)
  obtain ⟨rfl, eg2, em2⟩ := p2t
  have H2 := LTx.f0 H1 (Fr.xx eg2 em2)
  have hY2 := H2.1
  refine kt_v (pc' := 49) rfl <| ok_iconst (pc' := 50) i0_49 rfl <| ok_kc0 (pc1 := 95) (pc2 := 53) i0_50 (by decide) rfl rfl <| ok_aloadn (pc' := 54) i0_53 rfl rfl <| ok_bipush (v := 25) (pc' := 56) i0_54 rfl rfl <| ok_iconst (pc' := 57) i0_56 rfl <| ok_iconst (pc' := 58) i0_57 rfl <| ok_iconst (pc' := 59) i0_58 rfl <| ?_
  refine ok_iconst (pc' := 60) i0_59 rfl <| ?_
  have hC3 := H2.2.1
  refine ok_cc i0_60 rfl (cl_s o0 m13_234 na211 rfl rfl (bt rfl) (bt rfl) rfl) ln211 (pd211 (aR O) (aI 25) (aI 0) (aI 0) (aI 0) (aI 0)) <| (Ok.deep (t211_1 (k212_25 (lev := 2) (ShYard_k0 hC3.1.y) (by omega) (y152_z (Y := O) (P := O + 38) (A := O + 49) (V := O + 73) (T := O + 74) (K := O + 100) (H := O + 102) (X := O + 346) hC3.1.y hC3.1.h hC3.2.2.2.2.2.1 hC3.2.2.2.2.2.2.2.1.2))) (by omega)).mono (fun o9 g3t M3t p3t => ?_)
  obtain ⟨rfl, eg3, em3⟩ := p3t
  have H3 := LTx.f0 H2 (Fr.xx eg3 em3)
  have hY3 := H3.1
  refine kt_v (pc' := 63) rfl <| ok_iconst (pc' := 64) i0_63 rfl <| ok_kc0 (pc1 := 95) (pc2 := 67) i0_64 (by decide) rfl rfl <| ok_aloadn (pc' := 68) i0_67 rfl rfl <| ok_bipush (v := 15) (pc' := 70) i0_68 rfl rfl <| ok_iconst (pc' := 71) i0_70 rfl <| ok_iconst (pc' := 72) i0_71 rfl <| ok_iconst (pc' := 73) i0_72 rfl <| ?_
  refine ok_iconst (pc' := 74) i0_73 rfl <| ?_
  have hC4 := H3.2.1
  refine ok_cc i0_74 rfl (cl_s o0 m13_234 na211 rfl rfl (bt rfl) (bt rfl) rfl) ln211 (pd211 (aR O) (aI 15) (aI 0) (aI 0) (aI 0) (aI 0)) <| (Ok.deep (t211_2 (k212_15 (lev := 0) (ShYard_k0 hC4.1.y) (by omega) (y142_z (Y := O) (P := O + 38) (A := O + 49) (V := O + 73) (T := O + 74) (K := O + 100) (H := O + 102) (X := O + 346) hC4.1.y hC4.1.x rfl (by decide) hC4.2.2.2.2.2.2.2.2.2.1))) (by omega)).mono (fun o9 g4t M4t p4t => ?_)
  obtain ⟨rfl, eg4, em4⟩ := p4t
  have H4 := LTx.f0 H3 (Fr.xx eg4 em4)
  have hY4 := H4.1
  refine kt_v (pc' := 77) rfl <| ok_iconst (pc' := 78) i0_77 rfl <| ok_kc0 (pc1 := 95) (pc2 := 81) i0_78 (by decide) rfl rfl <| ok_aloadn (pc' := 82) i0_81 rfl rfl <| ?_
  refine ok_cc i0_82 rfl (cl_v o0 m13_158 na94 rfl rfl (bt rfl) (bt rfl) rfl (by rw [ShYard_k0 H4.2.1.1.y, o94])) ln94 (pd94 (aR O)) <| (Ok.deep (y94_z (Y := O) (P := O + 38) (A := O + 49) (V := O + 73) (T := O + 74) (K := O + 100) (H := O + 102) (X := O + 346) H4.2.1.1.y H4.2.1.2.2.2.2.2.1) (by omega)).mono (fun o9 g5l M5l p5l => ?_)
  obtain ⟨rfl, eg5l, em5l⟩ := p5l
  rw [eg5l, em5l]
  refine kt_v (pc' := 85) rfl <| ok_kz0 (pc1 := 95) (pc2 := 88) i0_85 (by decide) rfl rfl <| ok_aloadn (pc' := 89) i0_88 rfl rfl <| ?_
  refine ok_cc i0_89 rfl (cl_v o0 m13_357 na95 rfl rfl (bt rfl) (bt rfl) rfl (by rw [ShYard_k0 H4.2.1.1.y, o95])) ln95 (pd95 (aR O)) <| (Ok.deep (y95_z (Y := O) (P := O + 38) (A := O + 49) (V := O + 73) (T := O + 74) (K := O + 100) (H := O + 102) (X := O + 346) H4.2.1.1.y H4.2.1.1.h H4.2.1.2.2.2.2.2.1) (by omega)).mono (fun o9 g6l M6l p6l => ?_)
  obtain ⟨rfl, eg6l, em6l⟩ := p6l
  rw [eg6l, em6l]
  rw [H4.2.1.2.2.2.2.2.2.2.1.2]
  refine kt_v (pc' := 92) rfl <| ok_kz1 (pc1 := 97) (pc2 := 95) i0_92 (by decide) rfl rfl <| ok_aloadn (pc' := 98) i0_97 rfl rfl <| ok_aloadn (pc' := 99) i0_98 rfl rfl <| ok_getfr (r := 102) (pc' := 102) i0_99 o0 gr13_360 (hY4.gr.ky) (H4.2.2.2.2.2.1) rfl <| ?_
  have hz9 := H4.2.2.2.2.1.z
  refine ok_cc i0_102 rfl (cl_v o0 m13_364 na190 rfl rfl (bt rfl) (bt rfl) rfl (by rw [H4.2.2.2.2.1.k, o190])) ln190 (pd190 (aR 102)) <| (Ok.deep (sbT H4.2.2.2.2.1 (by omega) (by omega)) (by omega)).mono (fun o9 gs Ms ps => ?_)
  obtain ⟨S, W, rfl, hSW, hS19, es⟩ := ps
  have hCO := H4.2.1.2.2.2.2.2.2.2.2.2.2
  have Hs := LTx.f0 H4 es
  have hYs := Hs.1
  refine kt_v (pc' := 105) rfl <| ?_
  refine ok_cc i0_105 rfl (cl_s o0 m13_368 na209 rfl rfl (bt rfl) (bt rfl) rfl) ln209 (pd209 (aR O) (aR S)) <| (Ok.deep (t209 hYs.gr.o Hs.2.1 Hs.2.2.1 hS19 (by omega) hPI (by omega)) (by omega)).mono (fun o9 gt Mt pt => ?_)
  obtain ⟨rfl, hWt, k3, k4, k5, et⟩ := pt
  have HMt : MTx gt Mt O L d 0 A s q 640 20700 := ⟨hYs.fc et, hWt, Hs.2.2.1.fc et hYs.gr.o, Hs.2.2.2.1.fc et (by have := hYs.gr.n; omega) hYs.gr.o, hval.2.1 542 (by omega) (by omega) (Or.inr (by omega)), by have := hval.2.2.2.1; omega, hq0, by have := et.2.1; have := Hs.2.2.2.2.2.2.1; omega, by have := et.2.2.1; have := Hs.2.2.2.2.2.2.2; omega⟩
  have hYt := MTx.y HMt
  have hV := hWt.2.1.v
  have hQ := V_q hV
  refine kt_v (pc' := 108) rfl <| ok_aloadn (pc' := 109) i0_108 rfl rfl <| ok_getfi (v := (s 3)) (pc' := 112) i0_109 o0 gi13_152 (hYt.gr.ky) ((Yd.n3 hYt)) rfl <| ok_cnes (pc1 := 146) (pc2 := 115) i0_112 rfl rfl <| ok_aloadn (pc' := 116) i0_115 rfl rfl <| ?_
  refine ok_cc i0_116 rfl (cl_v o0 m13_372 na90 rfl rfl (bt rfl) (bt rfl) rfl (by rw [ShYard_k0 (MTx.w HMt).1.y, o90])) ln90 (pd90 (aR O)) <| (Ok.deep (y90 (Y := O) (P := O + 38) (A := O + 49) (V := O + 73) (T := O + 74) (K := O + 100) (H := O + 102) (X := O + 346) hWt.1.y hWt.1.w hWt.1.p hWt.1.s hWt.2.1.p hWt.2.1.s hQ hV hWt.2.1.l) (by omega)).mono (fun o9 g7l M7l p7l => ?_)
  obtain ⟨rfl, eg7l, em7l⟩ := p7l
  rw [eg7l, em7l]
  rw [k3]
  refine kt_v (pc' := 119) rfl <| ok_kz0 (pc1 := 146) (pc2 := 122) i0_119 (by decide) rfl rfl <| ok_aloadn (pc' := 123) i0_122 rfl rfl <| ?_
  refine ok_cc i0_123 rfl (cl_v o0 m13_375 na91 rfl rfl (bt rfl) (bt rfl) rfl (by rw [ShYard_k0 (MTx.w HMt).1.y, o91])) ln91 (pd91 (aR O)) <| (Ok.deep (y91 (Y := O) (P := O + 38) (A := O + 49) (V := O + 73) (T := O + 74) (K := O + 100) (H := O + 102) (X := O + 346) hWt.1.y hWt.1.w hWt.1.p hWt.1.s hWt.2.1.p hWt.2.1.s hQ hV hWt.2.1.l) (by omega)).mono (fun o9 g8l M8l p8l => ?_)
  obtain ⟨rfl, eg8l, em8l⟩ := p8l
  rw [eg8l, em8l]
  rw [k4]
  refine kt_v (pc' := 126) rfl <| ok_iconst (pc' := 127) i0_126 rfl <| ok_kc0 (pc1 := 146) (pc2 := 130) i0_127 (by decide) rfl rfl <| ok_aloadn (pc' := 131) i0_130 rfl rfl <| ?_
  refine ok_cc i0_131 rfl (cl_v o0 m13_378 na92 rfl rfl (bt rfl) (bt rfl) rfl (by rw [ShYard_k0 (MTx.w HMt).1.y, o92])) ln92 (pd92 (aR O)) <| (Ok.deep (y92 (Y := O) (P := O + 38) (A := O + 49) (V := O + 73) (T := O + 74) (K := O + 100) (H := O + 102) (X := O + 346) hWt.1.y hWt.1.w hWt.1.p hWt.1.s hWt.2.1.p hWt.2.1.s hQ hV hWt.2.1.l) (by omega)).mono (fun o9 g9l M9l p9l => ?_)
  obtain ⟨rfl, eg9l, em9l⟩ := p9l
  rw [eg9l, em9l]
  rw [k5]
  refine kt_v (pc' := 134) rfl <| ok_iconst (pc' := 135) i0_134 rfl <| ok_kc0 (pc1 := 146) (pc2 := 138) i0_135 (by decide) rfl rfl <| ok_aloadn (pc' := 139) i0_138 rfl rfl <| ok_aloadn (pc' := 140) i0_139 rfl rfl <| ?_
  refine ok_cc i0_140 rfl (cl_s o0 m13_381 na213 rfl rfl (bt rfl) (bt rfl) rfl) ln213 (pd213 (aR O) (aR 101)) <| (Ok.deep (t213 hYt hWt) (by omega)).mono (fun o9 g10L M10L p10L => ?_)
  obtain ⟨rfl, eL10, _, _⟩ := p10L
  have H10 := MTx.f0 HMt eL10
  refine kt_v (pc' := 143) rfl <| ok_kz1 (pc1 := 148) (pc2 := 146) i0_143 (by decide) rfl rfl <| ?_
  exact K _ _ (MTx.up H10 (by omega) (by omega))
