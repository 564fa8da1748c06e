/-! LENGTHS (by program, wip/p60/gen) -/
theorem o217 : am_oc 217 = 13 := by decide +kernel
theorem m13_53 : am_mlk 13 53 0 115 = true := by decide +kernel
theorem na115 : am_na 115 = 2 := by decide +kernel
theorem nl115 : am_nL 115 = 3 := by decide +kernel
theorem pd115 : ∀ a0 a1 a2 : AV, am_pad 115 [a0, a1, a2] = [a0, a1, a2] := by intros; unfold am_pad; rw [nl115]; rfl
theorem ln115 : 3 ≤ am_nL 115 := by rw [nl115]; decide
theorem m13_260 : am_mlk 13 260 0 200 = true := by decide +kernel
theorem m13_302 : am_mlk 13 302 0 202 = true := by decide +kernel
theorem m13_59 : am_mlk 13 59 0 123 = true := by decide +kernel
theorem na123 : am_na 123 = 2 := by decide +kernel
theorem nl123 : am_nL 123 = 3 := by decide +kernel
theorem pd123 : ∀ a0 a1 a2 : AV, am_pad 123 [a0, a1, a2] = [a0, a1, a2] := by intros; unfold am_pad; rw [nl123]; rfl
theorem ln123 : 3 ≤ am_nL 123 := by rw [nl123]; decide
theorem m13_313 : am_mlk 13 313 0 122 = true := by decide +kernel
theorem na122 : am_na 122 = 2 := by decide +kernel
theorem nl122 : am_nL 122 = 3 := by decide +kernel
theorem pd122 : ∀ a0 a1 a2 : AV, am_pad 122 [a0, a1, a2] = [a0, a1, a2] := by intros; unfold am_pad; rw [nl122]; rfl
theorem ln122 : 3 ≤ am_nL 122 := by rw [nl122]; decide
theorem gr13_266 : am_gfr 13 266 17 2 = true := by decide +kernel
theorem m13_303 : am_mlk 13 303 0 201 = true := by decide +kernel
theorem m13_307 : am_mlk 13 307 0 107 = true := by decide +kernel
theorem na107 : am_na 107 = 1 := by decide +kernel
theorem nl107 : am_nL 107 = 2 := by decide +kernel
theorem pd107 : ∀ a0 a1 : AV, am_pad 107 [a0, a1] = [a0, a1] := by intros; unfold am_pad; rw [nl107]; rfl
theorem ln107 : 2 ≤ am_nL 107 := by rw [nl107]; decide
theorem m13_310 : am_mlk 13 310 0 124 = true := by decide +kernel
theorem na124 : am_na 124 = 1 := by decide +kernel
theorem nl124 : am_nL 124 = 2 := by decide +kernel
theorem pd124 : ∀ a0 a1 : AV, am_pad 124 [a0, a1] = [a0, a1] := by intros; unfold am_pad; rw [nl124]; rfl
theorem ln124 : 2 ≤ am_nL 124 := by rw [nl124]; decide
theorem m13_234 : am_mlk 13 234 1 211 = true := by decide +kernel
theorem na211 : am_na 211 = 6 := by decide +kernel
theorem nl211 : am_nL 211 = 7 := by decide +kernel
theorem pd211 : ∀ a0 a1 a2 a3 a4 a5 : AV, am_pad 211 [a0, a1, a2, a3, a4, a5] = [a0, a1, a2, a3, a4, a5, aU] := by intros; unfold am_pad; rw [nl211]; rfl
theorem ln211 : 6 ≤ am_nL 211 := by rw [nl211]; decide
theorem m13_317 : am_mlk 13 317 0 125 = true := by decide +kernel
theorem na125 : am_na 125 = 0 := by decide +kernel
theorem nl125 : am_nL 125 = 3 := by decide +kernel
theorem pd125 : ∀ a0 : AV, am_pad 125 [a0] = [a0, aU, aU] := by intros; unfold am_pad; rw [nl125]; rfl
theorem ln125 : 1 ≤ am_nL 125 := by rw [nl125]; decide
theorem rt217 : am_rt 217 = some .boolean := by decide +kernel
theorem Fr.xx {g g1 : AG} {M M1 : AM} (e1 : g1 = am_alloc g 30 0 6) (e2 : M1 = M) : Fr FN 1 6 g M g1 M1 := by
  subst e1
  subst e2
  exact Fr.x Fr.rfl
theorem left_1 {b v k : Int} {q s f : Int → Int} (hV : Val b q s) (hf : f 0 = v) (hv : 1 ≤ v) (hk : 0 ≤ k ∧ k < s 3) : lfY s f 1 k = if s (94 + k) < v then -1 else max 0 ((s (94 + k) - v) - s 1) := by
  have e : lfY s f 1 k = lfF s f (0 + ((0 : Nat) : Int)) (if s (174 + k) = 0 then s (94 + k) else -1) := rfl
  rw [e]
  unfold lfF
  rw [show (0 : Int) + ((0 : Nat) : Int) = 0 from rfl, hf]
  by_cases h : s (174 + k) = 0
  · rw [if_pos h]
  · have hz := V_us hV hk.1 hk.2 h
    rw [if_neg h, if_pos (show (-1 : Int) < v by omega), if_pos (show s (94 + k) < v by omega)]
theorem y115_l {g : AG} {M : AM} {O : Nat} {q s f : Int → Int} {b v k : Int} (hW : CW g M O b q s) (hf : f 0 = v) (hv : 1 ≤ v ∧ v ≤ 200) (hk : 0 ≤ k ∧ k < s 3) : Ok 2 115 0 [aR O, aI k, aI v] [] g M (Rt (some (aI (lfY s f 1 k))) g (fun M9 => M9 = M)) := by
  have hV := hW.2.1.v
  have hQ := V_q hV
  rw [left_1 hV hf hv.1 hk]
  by_cases h : s (94 + k) < v
  · rw [if_pos h]
    exact (y115_b (Y := O) (P := O + 38) (A := O + 49) (V := O + 73) (T := O + 74) (K := O + 100) (H := O + 102) (X := O + 346) (x1 := k) (x2 := v) hW.1.y hW.1.w hW.1.p hW.1.s hW.2.1.p hW.2.1.s hQ hV hk hv h hW.2.1.l)
  · rw [if_neg h]
    exact (y115_a (Y := O) (P := O + 38) (A := O + 49) (V := O + 73) (T := O + 74) (K := O + 100) (H := O + 102) (X := O + 346) (x1 := k) (x2 := v) hW.1.y hW.1.w hW.1.p hW.1.s hW.2.1.p hW.2.1.s hQ hV hk hv (by omega) hW.2.1.l)
theorem y122_l {g : AG} {M : AM} {O : Nat} {q s : Int → Int} {b p k : Int} (hW : CW g M O b q s) (hp : 0 ≤ p ∧ p < q 1) (hk : 0 ≤ k ∧ k < s 3) : Ok 2 122 0 [aR O, aI p, aI k] [] g M (Rt (some (aI (if r37 q s p k = -1 then 0 else 1))) g (fun M9 => M9 = M)) := by
  have hV := hW.2.1.v
  have hQ := V_q hV
  by_cases h : r37 q s p k = -1
  · rw [if_pos h]
    exact (y122_a (Y := O) (P := O + 38) (A := O + 49) (V := O + 73) (T := O + 74) (K := O + 100) (H := O + 102) (X := O + 346) (x1 := p) (x2 := k) hW.1.y hW.1.w hW.1.p hW.1.s hW.2.1.p hW.2.1.s hQ hV hp hk h hW.2.1.l)
  · rw [if_neg h]
    exact (y122_b (Y := O) (P := O + 38) (A := O + 49) (V := O + 73) (T := O + 74) (K := O + 100) (H := O + 102) (X := O + 346) (x1 := p) (x2 := k) hW.1.y hW.1.w hW.1.p hW.1.s hW.2.1.p hW.2.1.s hQ hV hp hk h hW.2.1.l)
theorem or00 : am_or 0 0 = 0 := rfl
theorem or_or {x y : Int} : am_or (am_or x y) 0 = am_or x y := by
  unfold am_or
  rw [Int32.ofInt_toInt]
  show (_ ||| (0 : Int32)).toInt = _
  rw [Int32.or_zero]
theorem w217_34 {g : AG} {M : AM} {O : Nat} {A : YA} {s q : Int → Int} {b : Int} {d : Nat} {Q : AO → AG → AM → Prop} {x : Nat} {v : Int} {f : Int → Int} {w5 : AV} (hY : Yd g M O A s q) (hW : CW g M O b q s) (hA : IA g M x 1 f) (hR : RowV 1 f) (hf : f 0 = v) (hv : 1 ≤ v ∧ v ≤ 200) (hw5 : am_cat w5 = 1) (K : ∀ w5 : AV, am_cat w5 = 1 → Ok (d + 12) 217 81 [aR O, aR 101, aI v, aR x, aI 3, w5, aU] [] g M Q) : Ok (d + 12) 217 34 [aR O, aR 101, aI v, aR x, aI 0, w5, aU] [] g M Q := by
  have hV := hW.2.1.v
  have hQ := V_q hV
  have y3 := V_3 hV
  have y4 := V_4 hV
  have y5 := V_5 hV
  have yq0 := Q_0 hQ
  have yq1 := Q_1 hQ
  refine ok_lp (σ := Int) (fun p ls g9 M9 => (0 ≤ p ∧ p ≤ 3) ∧ g9 = g ∧ M9 = M ∧ ∃ w5 : AV, am_cat w5 = 1 ∧ ls = [aR O, aR 101, aI v, aR x, aI p, w5, aU]) (fun p => (3 - p).toNat) ?_ 0 _ g M ⟨by omega, rfl, rfl, w5, hw5, rfl⟩
  rintro p ls g9 M9 ⟨hp, rfl, rfl, w5, hw5, rfl⟩ ih
  refine ok_iload (pc' := 36) i217_34 rfl rfl <| ok_iconst (pc' := 37) i217_36 rfl <| ?_
  refine ok_cge (pc1 := 81) (pc2 := 40) i217_37 (by omega) rfl rfl (fun h1 => ?_) (fun h1 => ?_)
  · have hp9 : p = 3 := by omega
    rw [hp9]
    exact K w5 hw5
  · refine ok_aloadn (pc' := 41) i217_40 rfl rfl <| ok_aloadn (pc' := 42) i217_41 rfl rfl <| ok_iload (pc' := 44) i217_42 rfl rfl <| ?_
    refine ok_cc i217_44 rfl (cl_v o217 m13_273 na199 rfl rfl (bt rfl) (bt rfl) rfl (by rw [hY.gr.ky, o199])) ln199 (pd199 (aR 101) (aR x) (aI p)) <| (Ok.deep (t199 (x2 := p) hY hV hA hR ⟨by omega, by omega⟩) (by omega)).mono (fun o9 g1l M1l p1l => ?_)
    obtain ⟨eg1, em1, a1r, hF1, rfl⟩ := p1l
    have hG1 := rf_34 (p := p) hV hf hv.1 ⟨by omega, by omega⟩
    rw [eg1, em1, Fst.uniq (by omega) hF1 hG1]
    have hH1 := hG1.rg (by omega)
    refine kt_v (pc' := 47) rfl <| ok_astore (pc' := 49) (ls' := [aR O, aR 101, aI v, aR x, aI p, aR (nulR A.R (r34 s v p)), aU]) i217_47 (bt rfl) rfl rfl <| ok_aloadn (pc' := 50) i217_49 rfl rfl <| ok_iloadn (pc' := 51) i217_50 rfl rfl <| ok_iload (pc' := 53) i217_51 rfl rfl <| ?_
    refine ok_cc i217_53 rfl (cl_v o217 m13_56 na116 rfl rfl (bt rfl) (bt rfl) rfl (by rw [(ShYard_k0 hW.1.y), o116])) ln116 (pd116 (aR O) (aI v) (aI p)) <| (Ok.deep (y116 (Y := O) (P := O + 38) (A := O + 49) (V := O + 73) (T := O + 74) (K := O + 100) (H := O + 102) (X := O + 346) (x1 := v) (x2 := p) hW.1.y hW.1.w hW.1.p hW.1.s hW.2.1.p hW.2.1.s hQ hV (by omega) (by omega) hW.2.1.l) (by omega)).mono (fun o9 g2q M2q p2q => ?_)
    obtain ⟨rfl, eg2q, em2q⟩ := p2q
    rw [eg2q, em2q]
    refine kt_v (pc' := 56) rfl <| ok_aload (pc' := 58) i217_56 rfl rfl <| ?_
    by_cases u2 : (r34 s v p) = -1
    · rw [show nulR A.R (r34 s v p) = 0 by rw [u2, nulR_0]]
      refine ok_ifnn1 (pc1 := 61) i217_58 (by decide) rfl <| ok_iconst (pc' := 62) i217_61 rfl <| ok_goto (pc' := 70) i217_62 rfl <| ?_
      refine ok_ceq (pc1 := 75) (pc2 := 73) i217_70 (by omega) rfl rfl (fun h3 => ?_) (fun h9 => by exfalso; omega)
      refine ok_iinc (pc' := 78) (v := (p + 1)) (ls' := [aR O, aR 101, aI v, aR x, aI (p + 1), aR 0, aU]) i217_75 rfl rfl rfl rfl <| ok_goto (pc' := 34) i217_78 rfl <| ?_
      exact ih (p + 1) _ _ _ (by omega) ⟨by omega, rfl, rfl, _, rfl, rfl⟩
    · rw [show nulR A.R (r34 s v p) = A.R (r34 s v p) from nulR_1 u2]
      have z4 : 0 ≤ (r34 s v p) ∧ (r34 s v p) < s 3 := by omega
      refine ok_ifnn0 (pc1 := 65) i217_58 (Or.inl (Nat.le_trans (by decide) (hY.gr.rr (r34 s v p) (by omega) (by omega)).2.1.1)) rfl <| ok_aload (pc' := 67) i217_65 rfl rfl <| ok_getfi (v := (r34 s v p)) (pc' := 70) i217_67 o217 gi13_253 ((hY.gr.rr (r34 s v p) (by omega) (by omega)).2.2) ((hY.mr.rn (r34 s v p) (by omega) (by omega))) rfl <| ok_ceqs (pc1 := 75) (pc2 := 73) i217_70 rfl rfl <| ok_iinc (pc' := 78) (v := (p + 1)) (ls' := [aR O, aR 101, aI v, aR x, aI (p + 1), aR (A.R (r34 s v p)), aU]) i217_75 rfl rfl rfl rfl <| ok_goto (pc' := 34) i217_78 rfl <| ?_
      exact ih (p + 1) _ _ _ (by omega) ⟨by omega, rfl, rfl, _, rfl, rfl⟩
theorem w217_84 {g : AG} {M : AM} {O : Nat} {A : YA} {s q : Int → Int} {b : Int} {d : Nat} {Q : AO → AG → AM → Prop} {x : Nat} {v : Int} {f : Int → Int} {w5 : AV} (hY : Yd g M O A s q) (hW : CW g M O b q s) (hA : IA g M x 1 f) (hR : RowV 1 f) (hf : f 0 = v) (hv : 1 ≤ v ∧ v ≤ 200) (hw5 : am_cat w5 = 1) (K : Ok (d + 12) 217 123 [aR O, aR 101, aI v, aR x, aI (s 3), w5, aU] [] g M Q) : Ok (d + 12) 217 84 [aR O, aR 101, aI v, aR x, aI 0, w5, aU] [] g M Q := by
  have hV := hW.2.1.v
  have hQ := V_q hV
  have y3 := V_3 hV
  have y4 := V_4 hV
  have y5 := V_5 hV
  have yq0 := Q_0 hQ
  have yq1 := Q_1 hQ
  refine ok_lp (σ := Int) (fun k ls g9 M9 => (0 ≤ k ∧ k ≤ s 3) ∧ g9 = g ∧ M9 = M ∧ ls = [aR O, aR 101, aI v, aR x, aI k, w5, aU]) (fun k => (s 3 - k).toNat) ?_ 0 _ g M ⟨by omega, rfl, rfl, rfl⟩
  rintro k ls g9 M9 ⟨hk, rfl, rfl, rfl⟩ ih
  refine ok_iload (pc' := 86) i217_84 rfl rfl <| ok_aloadn (pc' := 87) i217_86 rfl rfl <| ok_getfi (v := (s 3)) (pc' := 90) i217_87 o217 gi13_152 (hY.gr.ky) ((Yd.n3 hY)) rfl <| ?_
  refine ok_cge (pc1 := 123) (pc2 := 93) i217_90 (by omega) rfl rfl (fun h1 => ?_) (fun h1 => ?_)
  · have hk9 : k = s 3 := by omega
    subst hk9
    exact K
  · refine ok_aloadn (pc' := 94) i217_93 rfl rfl <| ok_iload (pc' := 96) i217_94 rfl rfl <| ok_iloadn (pc' := 97) i217_96 rfl rfl <| ?_
    refine ok_cc i217_97 rfl (cl_v o217 m13_53 na115 rfl rfl (bt rfl) (bt rfl) rfl (by rw [(ShYard_k0 hW.1.y), o115])) ln115 (pd115 (aR O) (aI k) (aI v)) <| (Ok.deep (y115_l hW hf hv ⟨by omega, by omega⟩) (by omega)).mono (fun o9 g3l M3l p3l => ?_)
    obtain ⟨rfl, eg3l, em3l⟩ := p3l
    rw [eg3l, em3l]
    refine kt_v (pc' := 100) rfl <| ok_aloadn (pc' := 101) i217_100 rfl rfl <| ok_aloadn (pc' := 102) i217_101 rfl rfl <| ok_getfr (r := 107) (pc' := 105) i217_102 o217 gr13_168 (hY.gr.ky) (hY.gr.r4) rfl <| ok_iload (pc' := 107) i217_105 rfl rfl <| ok_aaload (r := (A.R k)) (pc' := 108) i217_107 (hY.gr.k7) (by decide) (hY.gr.l7) (by omega) ((hY.gr.rr k (by omega) (by omega)).1) rfl <| ok_aloadn (pc' := 109) i217_108 rfl rfl <| ?_
    refine ok_cc i217_109 rfl (cl_v o217 m13_260 na200 rfl rfl (bt rfl) (bt rfl) rfl (by rw [hY.gr.ky, o200])) ln200 (pd200 (aR 101) (aR (A.R k)) (aR x)) <| (Ok.deep (t200 hY hV (k := k) ⟨by omega, by omega⟩ hA hR) (by omega)).mono (fun o9 g4l M4l p4l => ?_)
    obtain ⟨rfl, eg4l, em4l⟩ := p4l
    rw [eg4l, em4l]
    refine kt_v (pc' := 112) rfl <| ok_ceqs (pc1 := 117) (pc2 := 115) i217_112 rfl rfl <| ok_iinc (pc' := 120) (v := (k + 1)) (ls' := [aR O, aR 101, aI v, aR x, aI (k + 1), w5, aU]) i217_117 rfl rfl rfl rfl <| ok_goto (pc' := 84) i217_120 rfl <| ?_
    exact ih (k + 1) _ _ _ (by omega) ⟨by omega, rfl, rfl, rfl⟩
theorem w217_2 {g : AG} {M : AM} {O : Nat} {A : YA} {s q : Int → Int} {b : Int} {d : Nat} {Q : AO → AG → AM → Prop} (hY : Yd g M O A s q) (hW : CW g M O b q s) (K : ∀ (g1 : AG) (M1 : AM) (v : Int) (w3 w4 w5 : AV), am_cat w3 = 1 → am_cat w4 = 1 → am_cat w5 = 1 → Yd g1 M1 O A s q → CW g1 M1 O b q s → Fr FN 7 7 g M g1 M1 → Ok (d + 12) 217 129 [aR O, aR 101, aI v, w3, w4, w5, aU] [] g1 M1 Q) : Ok (d + 12) 217 2 [aR O, aR 101, aI 1, aU, aU, aU, aU] [] g M Q := by
  have hV := hW.2.1.v
  have hQ := V_q hV
  have y3 := V_3 hV
  have y4 := V_4 hV
  have y5 := V_5 hV
  have yq0 := Q_0 hQ
  have yq1 := Q_1 hQ
  refine ok_lp (σ := Int) (fun v ls g9 M9 => (1 ≤ v ∧ v ≤ 8) ∧ Yd g9 M9 O A s q ∧ CW g9 M9 O b q s ∧ Fr FN (v.toNat - 1) (v.toNat - 1) g M g9 M9 ∧ ∃ w3 w4 w5 : AV, am_cat w3 = 1 ∧ am_cat w4 = 1 ∧ am_cat w5 = 1 ∧ ls = [aR O, aR 101, aI v, w3, w4, w5, aU]) (fun v => (8 - v).toNat) ?_ 1 _ g M ⟨by omega, hY, hW, Fr.w Fr.rfl (by omega) (by omega), aU, aU, aU, rfl, rfl, rfl, rfl⟩
  rintro v ls g9 M9 ⟨hv, hY, hW, hfr, w3, w4, w5, hw3, hw4, hw5, rfl⟩ ih
  refine ok_iloadn (pc' := 3) i217_2 rfl rfl <| ok_bipush (v := 8) (pc' := 5) i217_3 rfl rfl <| ?_
  refine ok_cge (pc1 := 129) (pc2 := 8) i217_5 (by omega) rfl rfl (fun h1 => ?_) (fun h1 => ?_)
  · exact K _ _ _ _ _ _ hw3 hw4 hw5 hY hW (Fr.w hfr (by omega) (by omega))
  · refine ok_iconst (pc' := 9) i217_8 rfl <| ?_
    refine ok_nia (pc' := 11) i217_9 (by decide) rfl (fun xr2 g2 M2 hx2 hn2 hA2 e2 => ?_)
    have hYa2 := Yd.f0 hY e2
    have f2 := Fr.trans hfr (Fr.of0 e2)
    have hl2 : xr2 < 100 + gN g2 := by omega
    have hWn3 := CW.f0 hW e2
    refine ok_dup (pc' := 12) i217_11 rfl rfl <| ok_iconst (pc' := 13) i217_12 rfl <| ok_iloadn (pc' := 14) i217_13 rfl rfl <| ?_
    have b4 := hA2.2.1
    refine ok_iastore (pc' := 15) i217_14 (hA2.1) (rfl) (by omega) rfl <| ?_
    have e5 := Fr.up (x := 0) (v := v) e2 (Or.inr (Nat.le_of_eq hx2))
    have hYa5 := Yd.f0 hY e5
    have f5 := Fr.trans hfr (Fr.of0 e5)
    have hA5 := IA.up (x := 0) (v := v) hA2
    have hWn6 := CW.f0 hW e5
    refine ok_astoren (pc' := 16) (ls' := [aR O, aR 101, aI v, aR xr2, w4, w5, aU]) i217_15 (bt rfl) rfl rfl <| ok_aloadn (pc' := 17) i217_16 rfl rfl <| ok_iloadn (pc' := 18) i217_17 rfl rfl <| ?_
    refine ok_cc i217_18 rfl (cl_v o217 m13_50 na112 rfl rfl (bt rfl) (bt rfl) rfl (by rw [(ShYard_k0 hWn6.1.y), o112])) ln112 (pd112 (aR O) (aI v)) <| (Ok.deep (y112 (Y := O) (P := O + 38) (A := O + 49) (V := O + 73) (T := O + 74) (K := O + 100) (H := O + 102) (X := O + 346) (x1 := v) hWn6.1.y hWn6.1.w hWn6.1.p hWn6.1.s hWn6.2.1.p hWn6.2.1.s hQ hV (by omega) hWn6.2.1.l) (by omega)).mono (fun o9 g5q M5q p5q => ?_)
    obtain ⟨rfl, eg5q, em5q⟩ := p5q
    rw [eg5q, em5q]
    refine kt_v (pc' := 21) rfl <| ok_aloadn (pc' := 22) i217_21 rfl rfl <| ok_iloadn (pc' := 23) i217_22 rfl rfl <| ?_
    refine ok_cc i217_23 rfl (cl_v o217 m13_302 na202 rfl rfl (bt rfl) (bt rfl) rfl (by rw [hYa5.gr.ky, o202])) ln202 (pd202 (aR 101) (aI v)) <| (Ok.deep (t202 (x1 := v) hYa5 hV (by omega)) (by omega)).mono (fun o9 g6l M6l p6l => ?_)
    obtain ⟨rfl, eg6l, em6l⟩ := p6l
    rw [eg6l, em6l]
    refine kt_v (pc' := 26) rfl <| ok_ceqs (pc1 := 31) (pc2 := 29) i217_26 rfl rfl <| ok_iconst (pc' := 32) i217_31 rfl <| ok_istore (pc' := 34) (ls' := [aR O, aR 101, aI v, aR xr2, aI 0, w5, aU]) i217_32 (bt rfl) rfl rfl <| ?_
    refine w217_34 (d := d) hYa5 hWn6 hA5 (RowV1 ⟨by omega, by omega⟩) upI_eq ⟨by omega, by omega⟩ hw5 (fun w5 hw5 => ?_)
    refine ok_iconst (pc' := 82) i217_81 rfl <| ok_istore (pc' := 84) (ls' := [aR O, aR 101, aI v, aR xr2, aI 0, w5, aU]) i217_82 (bt rfl) rfl rfl <| ?_
    refine w217_84 (d := d) hYa5 hWn6 hA5 (RowV1 ⟨by omega, by omega⟩) upI_eq ⟨by omega, by omega⟩ hw5 ?_
    refine ok_iinc (pc' := 126) (v := (v + 1)) (ls' := [aR O, aR 101, aI (v + 1), aR xr2, aI (s 3), w5, aU]) i217_123 rfl rfl rfl rfl <| ok_goto (pc' := 2) i217_126 rfl <| ?_
    exact ih (v + 1) _ _ _ (by omega) ⟨by omega, hYa5, hWn6, Fr.w f5 (by omega) (by omega), _, _, _, rfl, rfl, hw5, rfl⟩
theorem w217_230 {g : AG} {M : AM} {O : Nat} {A : YA} {s q : Int → Int} {b : Int} {d : Nat} {Q : AO → AG → AM → Prop} {a p : Int} {w5 : AV} (hY : Yd g M O A s q) (hW : CW g M O b q s) (hp : 0 ≤ p ∧ p < q 1) (hw5 : am_cat w5 = 1) (K : ∀ k : Int, Ok (d + 12) 217 261 [aR O, aR 101, aI a, aI p, aR (A.P p), w5, aI k] [] g M Q) : Ok (d + 12) 217 230 [aR O, aR 101, aI a, aI p, aR (A.P p), w5, aI 0] [] g M Q := by
  have hV := hW.2.1.v
  have hQ := V_q hV
  have y3 := V_3 hV
  have y4 := V_4 hV
  have y5 := V_5 hV
  have yq0 := Q_0 hQ
  have yq1 := Q_1 hQ
  have hq10 := Q_10 hQ hp.1 hp.2
  refine ok_lp (σ := Int) (fun k ls g9 M9 => (0 ≤ k ∧ k ≤ q (10 + p)) ∧ g9 = g ∧ M9 = M ∧ ls = [aR O, aR 101, aI a, aI p, aR (A.P p), w5, aI k]) (fun k => (q (10 + p) - k).toNat) ?_ 0 _ g M ⟨by omega, rfl, rfl, rfl⟩
  rintro k ls g9 M9 ⟨hk, rfl, rfl, rfl⟩ ih
  refine ok_iload (pc' := 232) i217_230 rfl rfl <| ok_aload (pc' := 234) i217_232 rfl rfl <| ok_arrlen (v := (q (10 + p))) (pc' := 235) i217_234 ((hY.gr.pp p (by omega) (by omega)).2.2.1) (by decide) ((hY.gr.pp p (by omega) (by omega)).2.2.2) rfl <| ?_
  refine ok_cge (pc1 := 261) (pc2 := 238) i217_235 (by omega) rfl rfl (fun h1 => ?_) (fun h1 => ?_)
  · exact K _
  · refine ok_aloadn (pc' := 239) i217_238 rfl rfl <| ok_iloadn (pc' := 240) i217_239 rfl rfl <| ok_iload (pc' := 242) i217_240 rfl rfl <| ?_
    refine ok_cc i217_242 rfl (cl_v o217 m13_47 na109 rfl rfl (bt rfl) (bt rfl) rfl (by rw [(ShYard_k0 hW.1.y), o109])) ln109 (pd109 (aR O) (aI p) (aI k)) <| (Ok.deep (y109 (Y := O) (P := O + 38) (A := O + 49) (V := O + 73) (T := O + 74) (K := O + 100) (H := O + 102) (X := O + 346) (x1 := p) (x2 := k) hW.1.y hW.1.w hW.1.p hW.1.s hW.2.1.p hW.2.1.s hQ hV hp ⟨by omega, by omega⟩ hq10 hW.2.1.l) (by omega)).mono (fun o9 g7q M7q p7q => ?_)
    obtain ⟨rfl, eg7q, em7q⟩ := p7q
    rw [eg7q, em7q]
    refine kt_v (pc' := 245) rfl <| ok_aload (pc' := 247) i217_245 rfl rfl <| ok_iload (pc' := 249) i217_247 rfl rfl <| ?_
    have b2 := (hY.gr.pp p (by omega) (by omega)).2.2.2
    have z3 : 1 ≤ q (16 + ((6 * p) + k)) ∧ q (16 + ((6 * p) + k)) ≤ 200 := Q_16 hQ (by omega) (by omega) (by omega) (by omega)
    refine ok_iaload (v := (q (16 + ((6 * p) + k)))) (pc' := 250) i217_249 ((hY.gr.pp p (by omega) (by omega)).2.2.1) (by decide) (rfl) (by omega) ((hY.mr.pp p (by omega) (by omega) k (by omega) (by omega))) rfl <| ok_ceqs (pc1 := 255) (pc2 := 253) i217_250 rfl rfl <| ok_iinc (pc' := 258) (v := (k + 1)) (ls' := [aR O, aR 101, aI a, aI p, aR (A.P p), w5, aI (k + 1)]) i217_255 rfl rfl (by simp [am_st1, am_st0, am_c2, hw5]) rfl <| ok_goto (pc' := 230) i217_258 rfl <| ?_
    exact ih (k + 1) _ _ _ (by omega) ⟨by omega, rfl, rfl, rfl⟩
theorem w217_264 {g : AG} {M : AM} {O : Nat} {A : YA} {s q : Int → Int} {b : Int} {d : Nat} {Q : AO → AG → AM → Prop} {a p : Int} {w5 : AV} (hY : Yd g M O A s q) (hW : CW g M O b q s) (hp : 0 ≤ p ∧ p < q 1) (hw5 : am_cat w5 = 1) (K : ∀ k : Int, Ok (d + 12) 217 335 [aR O, aR 101, aI a, aI p, aR (A.P p), w5, aI k] [] g M Q) : Ok (d + 12) 217 264 [aR O, aR 101, aI a, aI p, aR (A.P p), w5, aI 0] [] g M Q := by
  have hV := hW.2.1.v
  have hQ := V_q hV
  have y3 := V_3 hV
  have y4 := V_4 hV
  have y5 := V_5 hV
  have yq0 := Q_0 hQ
  have yq1 := Q_1 hQ
  have hq10 := Q_10 hQ hp.1 hp.2
  refine ok_lp (σ := Int) (fun k ls g9 M9 => (0 ≤ k ∧ k ≤ s 3) ∧ g9 = g ∧ M9 = M ∧ ls = [aR O, aR 101, aI a, aI p, aR (A.P p), w5, aI k]) (fun k => (s 3 - k).toNat) ?_ 0 _ g M ⟨by omega, rfl, rfl, rfl⟩
  rintro k ls g9 M9 ⟨hk, rfl, rfl, rfl⟩ ih
  by_cases hk9 : k = s 3
  · subst hk9
    refine ok_iload (pc' := 266) i217_264 rfl rfl <| ok_aloadn (pc' := 267) i217_266 rfl rfl <| ok_getfi (v := (s 3)) (pc' := 270) i217_267 o217 gi13_152 (hY.gr.ky) ((Yd.n3 hY)) rfl <| ?_
    refine ok_cge (pc1 := 335) (pc2 := 273) i217_270 (by omega) rfl rfl (fun h1 => ?_) (fun h9 => by exfalso; omega)
    exact K _
  have hr37 := lfY_rg (k := k) hV (ptV hQ hp) ⟨by omega, by omega⟩
  rw [lf_222 hV hp ⟨by omega, by omega⟩] at hr37
  by_cases hc : r37 q s p k = -1
  · skip
    refine ok_iload (pc' := 266) i217_264 rfl rfl <| ok_aloadn (pc' := 267) i217_266 rfl rfl <| ok_getfi (v := (s 3)) (pc' := 270) i217_267 o217 gi13_152 (hY.gr.ky) ((Yd.n3 hY)) rfl <| ?_
    refine ok_cge (pc1 := 335) (pc2 := 273) i217_270 (by omega) rfl rfl (fun h9 => by exfalso; omega) (fun h1 => ?_)
    refine ok_aloadn (pc' := 274) i217_273 rfl rfl <| ok_iloadn (pc' := 275) i217_274 rfl rfl <| ok_iload (pc' := 277) i217_275 rfl rfl <| ?_
    refine ok_cc i217_277 rfl (cl_v o217 m13_59 na123 rfl rfl (bt rfl) (bt rfl) rfl (by rw [(ShYard_k0 hW.1.y), o123])) ln123 (pd123 (aR O) (aI p) (aI k)) <| (Ok.deep (y123 (Y := O) (P := O + 38) (A := O + 49) (V := O + 73) (T := O + 74) (K := O + 100) (H := O + 102) (X := O + 346) (x1 := p) (x2 := k) hW.1.y hW.1.w hW.1.p hW.1.s hW.2.1.p hW.2.1.s hQ hV hp ⟨by omega, by omega⟩ hW.2.1.l) (by omega)).mono (fun o9 g8q M8q p8q => ?_)
    obtain ⟨rfl, eg8q, em8q⟩ := p8q
    rw [eg8q, em8q]
    refine kt_v (pc' := 280) rfl <| ok_aloadn (pc' := 281) i217_280 rfl rfl <| ok_aloadn (pc' := 282) i217_281 rfl rfl <| ok_getfr (r := 107) (pc' := 285) i217_282 o217 gr13_168 (hY.gr.ky) (hY.gr.r4) rfl <| ok_iload (pc' := 287) i217_285 rfl rfl <| ok_aaload (r := (A.R k)) (pc' := 288) i217_287 (hY.gr.k7) (by decide) (hY.gr.l7) (by omega) ((hY.gr.rr k (by omega) (by omega)).1) rfl <| ok_aload (pc' := 290) i217_288 rfl rfl <| ?_
    refine ok_cc i217_290 rfl (cl_v o217 m13_260 na200 rfl rfl (bt rfl) (bt rfl) rfl (by rw [hY.gr.ky, o200])) ln200 (pd200 (aR 101) (aR (A.R k)) (aR (A.P p))) <| (Ok.deep (t200 hY hV (k := k) ⟨by omega, by omega⟩ (hY.ip (p := p) hp.1 hp.2) (ptV hQ hp)) (by omega)).mono (fun o9 g9l M9l p9l => ?_)
    obtain ⟨rfl, eg9l, em9l⟩ := p9l
    rw [eg9l, em9l]
    rw [lf_222 hV hp ⟨by omega, by omega⟩]
    refine kt_v (pc' := 293) rfl <| ok_cnes (pc1 := 327) (pc2 := 296) i217_293 rfl rfl <| ok_aloadn (pc' := 297) i217_296 rfl rfl <| ok_iloadn (pc' := 298) i217_297 rfl rfl <| ok_iload (pc' := 300) i217_298 rfl rfl <| ?_
    refine ok_cc i217_300 rfl (cl_v o217 m13_313 na122 rfl rfl (bt rfl) (bt rfl) rfl (by rw [(ShYard_k0 hW.1.y), o122])) ln122 (pd122 (aR O) (aI p) (aI k)) <| (Ok.deep (y122_l hW hp ⟨by omega, by omega⟩) (by omega)).mono (fun o9 g10l M10l p10l => ?_)
    obtain ⟨rfl, eg10l, em10l⟩ := p10l
    rw [eg10l, em10l]
    rw [if_pos hc]
    refine kt_v (pc' := 303) rfl <| ok_aloadn (pc' := 304) i217_303 rfl rfl <| ok_aloadn (pc' := 305) i217_304 rfl rfl <| ok_getfr (r := 107) (pc' := 308) i217_305 o217 gr13_168 (hY.gr.ky) (hY.gr.r4) rfl <| ok_iload (pc' := 310) i217_308 rfl rfl <| ok_aaload (r := (A.R k)) (pc' := 311) i217_310 (hY.gr.k7) (by decide) (hY.gr.l7) (by omega) ((hY.gr.rr k (by omega) (by omega)).1) rfl <| ok_aload (pc' := 313) i217_311 rfl rfl <| ?_
    refine ok_cc i217_313 rfl (cl_v o217 m13_260 na200 rfl rfl (bt rfl) (bt rfl) rfl (by rw [hY.gr.ky, o200])) ln200 (pd200 (aR 101) (aR (A.R k)) (aR (A.P p))) <| (Ok.deep (t200 hY hV (k := k) ⟨by omega, by omega⟩ (hY.ip (p := p) hp.1 hp.2) (ptV hQ hp)) (by omega)).mono (fun o9 g11l M11l p11l => ?_)
    obtain ⟨rfl, eg11l, em11l⟩ := p11l
    rw [eg11l, em11l]
    rw [lf_222 hV hp ⟨by omega, by omega⟩]
    refine kt_v (pc' := 316) rfl <| ?_
    refine ok_zlt (pc1 := 323) (pc2 := 319) i217_316 (by omega) rfl rfl (fun h2 => ?_) (fun h9 => by exfalso; omega)
    refine ok_iconst (pc' := 324) i217_323 rfl <| ok_kc1 (pc1 := 329) (pc2 := 327) i217_324 (by decide) rfl rfl <| ok_iinc (pc' := 332) (v := (k + 1)) (ls' := [aR O, aR 101, aI a, aI p, aR (A.P p), w5, aI (k + 1)]) i217_329 rfl rfl (by simp [am_st1, am_st0, am_c2, hw5]) rfl <| ok_goto (pc' := 264) i217_332 rfl <| ?_
    exact ih (k + 1) _ _ _ (by omega) ⟨by omega, rfl, rfl, rfl⟩
  · have hr0 : 0 ≤ r37 q s p k ∧ r37 q s p k ≤ 200 := by omega
    refine ok_iload (pc' := 266) i217_264 rfl rfl <| ok_aloadn (pc' := 267) i217_266 rfl rfl <| ok_getfi (v := (s 3)) (pc' := 270) i217_267 o217 gi13_152 (hY.gr.ky) ((Yd.n3 hY)) rfl <| ?_
    refine ok_cge (pc1 := 335) (pc2 := 273) i217_270 (by omega) rfl rfl (fun h9 => by exfalso; omega) (fun h1 => ?_)
    refine ok_aloadn (pc' := 274) i217_273 rfl rfl <| ok_iloadn (pc' := 275) i217_274 rfl rfl <| ok_iload (pc' := 277) i217_275 rfl rfl <| ?_
    refine ok_cc i217_277 rfl (cl_v o217 m13_59 na123 rfl rfl (bt rfl) (bt rfl) rfl (by rw [(ShYard_k0 hW.1.y), o123])) ln123 (pd123 (aR O) (aI p) (aI k)) <| (Ok.deep (y123 (Y := O) (P := O + 38) (A := O + 49) (V := O + 73) (T := O + 74) (K := O + 100) (H := O + 102) (X := O + 346) (x1 := p) (x2 := k) hW.1.y hW.1.w hW.1.p hW.1.s hW.2.1.p hW.2.1.s hQ hV hp ⟨by omega, by omega⟩ hW.2.1.l) (by omega)).mono (fun o9 g12q M12q p12q => ?_)
    obtain ⟨rfl, eg12q, em12q⟩ := p12q
    rw [eg12q, em12q]
    refine kt_v (pc' := 280) rfl <| ok_aloadn (pc' := 281) i217_280 rfl rfl <| ok_aloadn (pc' := 282) i217_281 rfl rfl <| ok_getfr (r := 107) (pc' := 285) i217_282 o217 gr13_168 (hY.gr.ky) (hY.gr.r4) rfl <| ok_iload (pc' := 287) i217_285 rfl rfl <| ok_aaload (r := (A.R k)) (pc' := 288) i217_287 (hY.gr.k7) (by decide) (hY.gr.l7) (by omega) ((hY.gr.rr k (by omega) (by omega)).1) rfl <| ok_aload (pc' := 290) i217_288 rfl rfl <| ?_
    refine ok_cc i217_290 rfl (cl_v o217 m13_260 na200 rfl rfl (bt rfl) (bt rfl) rfl (by rw [hY.gr.ky, o200])) ln200 (pd200 (aR 101) (aR (A.R k)) (aR (A.P p))) <| (Ok.deep (t200 hY hV (k := k) ⟨by omega, by omega⟩ (hY.ip (p := p) hp.1 hp.2) (ptV hQ hp)) (by omega)).mono (fun o9 g13l M13l p13l => ?_)
    obtain ⟨rfl, eg13l, em13l⟩ := p13l
    rw [eg13l, em13l]
    rw [lf_222 hV hp ⟨by omega, by omega⟩]
    refine kt_v (pc' := 293) rfl <| ok_cnes (pc1 := 327) (pc2 := 296) i217_293 rfl rfl <| ok_aloadn (pc' := 297) i217_296 rfl rfl <| ok_iloadn (pc' := 298) i217_297 rfl rfl <| ok_iload (pc' := 300) i217_298 rfl rfl <| ?_
    refine ok_cc i217_300 rfl (cl_v o217 m13_313 na122 rfl rfl (bt rfl) (bt rfl) rfl (by rw [(ShYard_k0 hW.1.y), o122])) ln122 (pd122 (aR O) (aI p) (aI k)) <| (Ok.deep (y122_l hW hp ⟨by omega, by omega⟩) (by omega)).mono (fun o9 g14l M14l p14l => ?_)
    obtain ⟨rfl, eg14l, em14l⟩ := p14l
    rw [eg14l, em14l]
    rw [if_neg hc]
    refine kt_v (pc' := 303) rfl <| ok_aloadn (pc' := 304) i217_303 rfl rfl <| ok_aloadn (pc' := 305) i217_304 rfl rfl <| ok_getfr (r := 107) (pc' := 308) i217_305 o217 gr13_168 (hY.gr.ky) (hY.gr.r4) rfl <| ok_iload (pc' := 310) i217_308 rfl rfl <| ok_aaload (r := (A.R k)) (pc' := 311) i217_310 (hY.gr.k7) (by decide) (hY.gr.l7) (by omega) ((hY.gr.rr k (by omega) (by omega)).1) rfl <| ok_aload (pc' := 313) i217_311 rfl rfl <| ?_
    refine ok_cc i217_313 rfl (cl_v o217 m13_260 na200 rfl rfl (bt rfl) (bt rfl) rfl (by rw [hY.gr.ky, o200])) ln200 (pd200 (aR 101) (aR (A.R k)) (aR (A.P p))) <| (Ok.deep (t200 hY hV (k := k) ⟨by omega, by omega⟩ (hY.ip (p := p) hp.1 hp.2) (ptV hQ hp)) (by omega)).mono (fun o9 g15l M15l p15l => ?_)
    obtain ⟨rfl, eg15l, em15l⟩ := p15l
    rw [eg15l, em15l]
    rw [lf_222 hV hp ⟨by omega, by omega⟩]
    refine kt_v (pc' := 316) rfl <| ?_
    refine ok_zlt (pc1 := 323) (pc2 := 319) i217_316 (by omega) rfl rfl (fun h9 => by exfalso; omega) (fun h2 => ?_)
    refine ok_iconst (pc' := 320) i217_319 rfl <| ok_goto (pc' := 324) i217_320 rfl <| ok_kc1 (pc1 := 329) (pc2 := 327) i217_324 (by decide) rfl rfl <| ok_iinc (pc' := 332) (v := (k + 1)) (ls' := [aR O, aR 101, aI a, aI p, aR (A.P p), w5, aI (k + 1)]) i217_329 rfl rfl (by simp [am_st1, am_st0, am_c2, hw5]) rfl <| ok_goto (pc' := 264) i217_332 rfl <| ?_
    exact ih (k + 1) _ _ _ (by omega) ⟨by omega, rfl, rfl, rfl⟩
theorem w217_133 {g : AG} {M : AM} {O : Nat} {A : YA} {s q : Int → Int} {b : Int} {d : Nat} {w4 w5 : AV} {Q : AO → AG → AM → Prop} (hY : Yd g M O A s q) (hW : CW g M O b q s) (hw4 : am_cat w4 = 1) (hw5 : am_cat w5 = 1) (K : ∀ (g1 : AG) (M1 : AM) (w4 w5 w6 : AV), am_cat w4 = 1 → am_cat w5 = 1 → am_cat w6 = 1 → Yd g1 M1 O A s q → CW g1 M1 O b q s → Fr FN 12 1242 g M g1 M1 → Ok (d + 12) 217 341 [aR O, aR 101, aI (itv (f125_8 q s) 0 0 (q 1).toNat), aI (q 1), w4, w5, w6] [] g1 M1 Q) : Ok (d + 12) 217 133 [aR O, aR 101, aI 0, aI 0, w4, w5, aU] [] g M Q := by
  have hV := hW.2.1.v
  have hQ := V_q hV
  have y3 := V_3 hV
  have y4 := V_4 hV
  have y5 := V_5 hV
  have yq0 := Q_0 hQ
  have yq1 := Q_1 hQ
  refine ok_lp (σ := Nat) (fun n ls g9 M9 => n ≤ (q 1).toNat ∧ ∃ p a : Int, p = (n : Int) ∧ a = itv (f125_8 q s) 0 0 n ∧ am_or a 0 = a ∧ Yd g9 M9 O A s q ∧ CW g9 M9 O b q s ∧ Fr FN (2 * n) (207 * n) g M g9 M9 ∧ ∃ w4 w5 w6 : AV, am_cat w4 = 1 ∧ am_cat w5 = 1 ∧ am_cat w6 = 1 ∧ ls = [aR O, aR 101, aI a, aI p, w4, w5, w6]) (fun n => (q 1).toNat - n) ?_ 0 _ g M ⟨Nat.zero_le _, 0, 0, rfl, rfl, or00, hY, hW, Fr.w Fr.rfl (by omega) (by omega), w4, w5, aU, hw4, hw5, rfl, rfl⟩
  rintro n ls g9 M9 ⟨hn, p, a, hpn, ha, hor, hY, hW, hfr, w4, w5, w6, hw4, hw5, hw6, rfl⟩ ih
  by_cases hp9 : p = q 1
  · have hn9 : n = (q 1).toNat := by omega
    subst hn9
    subst hp9
    subst ha
    refine ok_iloadn (pc' := 134) i217_133 rfl rfl <| ok_aloadn (pc' := 135) i217_134 rfl rfl <| ok_getfi (v := (q 1)) (pc' := 138) i217_135 o217 gi13_257 (hY.gr.ky) (hY.mr.q1) rfl <| ?_
    refine ok_cge (pc1 := 341) (pc2 := 141) i217_138 (by omega) rfl rfl (fun h1 => ?_) (fun h9 => by exfalso; omega)
    exact K _ _ _ _ _ hw4 hw5 hw6 hY hW (Fr.w hfr (by omega) (by omega))
  have hp : 0 ≤ p ∧ p < q 1 := by omega
  have hq10 := Q_10 hQ hp.1 hp.2
  have hr39 := w39_1 (s := s) (q := q) (p := p)
  refine ok_iloadn (pc' := 134) i217_133 rfl rfl <| ok_aloadn (pc' := 135) i217_134 rfl rfl <| ok_getfi (v := (q 1)) (pc' := 138) i217_135 o217 gi13_257 (hY.gr.ky) (hY.mr.q1) rfl <| ?_
  refine ok_cge (pc1 := 341) (pc2 := 141) i217_138 (by omega) rfl rfl (fun h9 => by exfalso; omega) (fun h1 => ?_)
  refine ok_aloadn (pc' := 142) i217_141 rfl rfl <| ok_getfr (r := 105) (pc' := 145) i217_142 o217 gr13_266 (hY.gr.ky) (hY.gr.r2) rfl <| ok_iloadn (pc' := 146) i217_145 rfl rfl <| ok_aaload (r := (A.P p)) (pc' := 147) i217_146 (hY.gr.k5) (by decide) (hY.gr.l5) (by omega) ((hY.gr.pp p (by omega) (by omega)).1) rfl <| ok_astore (pc' := 149) (ls' := [aR O, aR 101, aI a, aI p, aR (A.P p), w5, w6]) i217_147 (bt rfl) rfl rfl <| ok_aloadn (pc' := 150) i217_149 rfl rfl <| ok_aload (pc' := 152) i217_150 rfl rfl <| ok_iconst (pc' := 153) i217_152 rfl <| ?_
  refine ok_cc i217_153 rfl (cl_v o217 m13_273 na199 rfl rfl (bt rfl) (bt rfl) rfl (by rw [hY.gr.ky, o199])) ln199 (pd199 (aR 101) (aR (A.P p)) (aI 1)) <| (Ok.deep (t199 (x2 := 1) hY hV (hY.ip (p := p) hp.1 hp.2) (ptV hQ hp) ⟨by omega, by omega⟩) (by omega)).mono (fun o9 g16l M16l p16l => ?_)
  obtain ⟨eg16, em16, a16r, hF16, rfl⟩ := p16l
  have hG16 := rf_38 hV hp
  rw [eg16, em16, Fst.uniq (by omega) hF16 hG16]
  have hH16 := hG16.rg (by omega)
  refine kt_v (pc' := 156) rfl <| ok_astore (pc' := 158) (ls' := [aR O, aR 101, aI a, aI p, aR (A.P p), aR (nulR A.R (r38 q s p)), w6]) i217_156 (bt rfl) rfl rfl <| ok_iloadn (pc' := 159) i217_158 rfl rfl <| ok_aloadn (pc' := 160) i217_159 rfl rfl <| ok_aload (pc' := 162) i217_160 rfl rfl <| ?_
  refine ok_cc i217_162 rfl (cl_v o217 m13_303 na201 rfl rfl (bt rfl) (bt rfl) rfl (by rw [hY.gr.ky, o201])) ln201 (pd201 (aR 101) (aR (A.P p))) <| (Ok.deep (t201 hY hV hp) (by omega)).mono (fun o9 g17l M17l p17l => ?_)
  obtain ⟨rfl, e17l⟩ := p17l
  have hYc2 := Yd.f0 hY e17l
  have hWc2 := CW.f0 hW e17l
  have f2 := Fr.trans hfr (Fr.of0 e17l)
  refine kt_v (pc' := 165) rfl <| ?_
  refine ok_zeq (pc1 := 174) (pc2 := 168) i217_165 (by omega) rfl rfl (fun h3 => ?_) (fun h3 => ?_)
  · refine ok_iconst (pc' := 175) i217_174 rfl <| ok_ior (v := (am_or a 0)) (pc' := 176) i217_175 rfl rfl <| ok_istoren (pc' := 177) (ls' := [aR O, aR 101, aI (am_or a 0), aI p, aR (A.P p), aR (nulR A.R (r38 q s p)), w6]) i217_176 (bt rfl) rfl rfl <| ok_aloadn (pc' := 178) i217_177 rfl rfl <| ok_iloadn (pc' := 179) i217_178 rfl rfl <| ?_
    refine ok_cc i217_179 rfl (cl_v o217 m13_307 na107 rfl rfl (bt rfl) (bt rfl) rfl (by rw [(ShYard_k0 hWc2.1.y), o107])) ln107 (pd107 (aR O) (aI p)) <| (Ok.deep (y107 (Y := O) (P := O + 38) (A := O + 49) (V := O + 73) (T := O + 74) (K := O + 100) (H := O + 102) (X := O + 346) (x1 := p) hWc2.1.y hWc2.1.w hWc2.1.p hWc2.1.s hWc2.2.1.p hWc2.2.1.s hQ hV hp hWc2.2.1.l) (by omega)).mono (fun o9 g18q M18q p18q => ?_)
    obtain ⟨rfl, eg18q, em18q⟩ := p18q
    rw [eg18q, em18q]
    refine kt_v (pc' := 182) rfl <| ok_aload (pc' := 184) i217_182 rfl rfl <| ok_arrlen (v := (q (10 + p))) (pc' := 185) i217_184 ((hYc2.gr.pp p (by omega) (by omega)).2.2.1) (by decide) ((hYc2.gr.pp p (by omega) (by omega)).2.2.2) rfl <| ok_cnes (pc1 := 225) (pc2 := 188) i217_185 rfl rfl <| ok_aloadn (pc' := 189) i217_188 rfl rfl <| ok_iloadn (pc' := 190) i217_189 rfl rfl <| ?_
    refine ok_cc i217_190 rfl (cl_v o217 m13_310 na124 rfl rfl (bt rfl) (bt rfl) rfl (by rw [(ShYard_k0 hWc2.1.y), o124])) ln124 (pd124 (aR O) (aI p)) <| (Ok.deep (y124 (Y := O) (P := O + 38) (A := O + 49) (V := O + 73) (T := O + 74) (K := O + 100) (H := O + 102) (X := O + 346) (x1 := p) hWc2.1.y hWc2.1.w hWc2.1.p hWc2.1.s hWc2.2.1.p hWc2.2.1.s hQ hV hp hWc2.2.1.l) (by omega)).mono (fun o9 g19q M19q p19q => ?_)
    obtain ⟨rfl, eg19q, em19q⟩ := p19q
    rw [eg19q, em19q]
    refine kt_v (pc' := 193) rfl <| ok_aload (pc' := 195) i217_193 rfl rfl <| ?_
    by_cases u4 : (r38 q s p) = -1
    · rw [show nulR A.R (r38 q s p) = 0 by rw [u4, nulR_0]]
      refine ok_ifnn1 (pc1 := 198) i217_195 (by decide) rfl <| ok_iconst (pc' := 199) i217_198 rfl <| ok_goto (pc' := 207) i217_199 rfl <| ?_
      refine ok_cne (pc1 := 225) (pc2 := 210) i217_207 (by omega) rfl rfl (fun h9 => by exfalso; omega) (fun h5 => ?_)
      refine ok_aloadn (pc' := 211) i217_210 rfl rfl <| ok_iconst (pc' := 212) i217_211 rfl <| ok_iloadn (pc' := 213) i217_212 rfl rfl <| ok_aload (pc' := 215) i217_213 rfl rfl <| ok_arrlen (v := (q (10 + p))) (pc' := 216) i217_215 ((hYc2.gr.pp p (by omega) (by omega)).2.2.1) (by decide) ((hYc2.gr.pp p (by omega) (by omega)).2.2.2) rfl <| ok_iconst (pc' := 217) i217_216 rfl <| ok_iconst (pc' := 218) i217_217 rfl <| ?_
      refine ok_cc i217_218 rfl (cl_s o217 m13_234 na211 rfl rfl (bt rfl) (bt rfl) rfl) ln211 (pd211 (aR O) (aI 4) (aI p) (aI (q (10 + p))) (aI 0) (aI 0)) <| (Ok.deep (t211_2 (k212_4 (lev := 1) (ShYard_k0 hWc2.1.y) (by omega) (y109_x (Y := O) (P := O + 38) (A := O + 49) (V := O + 73) (T := O + 74) (K := O + 100) (H := O + 102) (X := O + 346) (x1 := p) (x2 := q (10 + p)) hWc2.1.y hWc2.1.w hWc2.1.p hWc2.1.s hWc2.2.1.p hWc2.2.1.s hQ hV hp rfl hq10 hWc2.2.1.l))) (by omega)).mono (fun o9 g20t M20t p20t => ?_)
      obtain ⟨rfl, eg20t, em20t⟩ := p20t
      have et20 := Fr.xx eg20t em20t
      have hYc6 := Yd.f0 hYc2 et20
      have hWc6 := CW.f0 hWc2 et20
      have f6 := Fr.trans f2 (Fr.of0 et20)
      refine kt_v (pc' := 221) rfl <| ok_iconst (pc' := 222) i217_221 rfl <| ok_kc1 (pc1 := 227) (pc2 := 225) i217_222 (by decide) rfl rfl <| ok_iconst (pc' := 228) i217_227 rfl <| ok_istore (pc' := 230) (ls' := [aR O, aR 101, aI (am_or a 0), aI p, aR (A.P p), aR 0, aI 0]) i217_228 (bt rfl) rfl rfl <| ?_
      refine w217_230 (d := d) hYc6 hWc6 hp (by first | rfl | exact hw5) (fun k => ?_)
      refine ok_iconst (pc' := 262) i217_261 rfl <| ok_istore (pc' := 264) (ls' := [aR O, aR 101, aI (am_or a 0), aI p, aR (A.P p), aR 0, aI 0]) i217_262 (bt rfl) rfl rfl <| ?_
      refine w217_264 (d := d) hYc6 hWc6 hp (by first | rfl | exact hw5) (fun k => ?_)
      refine ok_iinc (pc' := 338) (v := (p + 1)) (ls' := [aR O, aR 101, aI (am_or a 0), aI (p + 1), aR (A.P p), aR 0, aI k]) i217_335 rfl rfl rfl rfl <| ok_goto (pc' := 133) i217_338 rfl <| ?_
      have hset : (am_or a 0) = itv (f125_8 q s) 0 0 (n + 1) ∧ am_or (am_or a 0) 0 = (am_or a 0) := by
        rw [itv_1 hpn, ← ha]; unfold f125_8
        rw [if_pos (show r39 q s p = 0 by omega)]; exact ⟨hor, or_or⟩
      exact ih (n + 1) _ _ _ (by omega) ⟨by omega, p + 1, _, by omega, hset.1, hset.2, hYc6, hWc6, Fr.w f6 (by omega) (by omega), _, _, _, rfl, by first | rfl | exact hw5, rfl, rfl⟩
    · rw [show nulR A.R (r38 q s p) = A.R (r38 q s p) from nulR_1 u4]
      have z7 : 0 ≤ (r38 q s p) ∧ (r38 q s p) < s 3 := by omega
      refine ok_ifnn0 (pc1 := 202) i217_195 (Or.inl (Nat.le_trans (by decide) (hYc2.gr.rr (r38 q s p) (by omega) (by omega)).2.1.1)) rfl <| ok_aload (pc' := 204) i217_202 rfl rfl <| ok_getfi (v := (r38 q s p)) (pc' := 207) i217_204 o217 gi13_253 ((hYc2.gr.rr (r38 q s p) (by omega) (by omega)).2.2) ((hYc2.mr.rn (r38 q s p) (by omega) (by omega))) rfl <| ok_cnes (pc1 := 225) (pc2 := 210) i217_207 rfl rfl <| ok_aloadn (pc' := 211) i217_210 rfl rfl <| ok_iconst (pc' := 212) i217_211 rfl <| ok_iloadn (pc' := 213) i217_212 rfl rfl <| ok_aload (pc' := 215) i217_213 rfl rfl <| ?_
      refine ok_arrlen (v := (q (10 + p))) (pc' := 216) i217_215 ((hYc2.gr.pp p (by omega) (by omega)).2.2.1) (by decide) ((hYc2.gr.pp p (by omega) (by omega)).2.2.2) rfl <| ok_iconst (pc' := 217) i217_216 rfl <| ok_iconst (pc' := 218) i217_217 rfl <| ?_
      refine ok_cc i217_218 rfl (cl_s o217 m13_234 na211 rfl rfl (bt rfl) (bt rfl) rfl) ln211 (pd211 (aR O) (aI 4) (aI p) (aI (q (10 + p))) (aI 0) (aI 0)) <| (Ok.deep (t211_2 (k212_4 (lev := 1) (ShYard_k0 hWc2.1.y) (by omega) (y109_x (Y := O) (P := O + 38) (A := O + 49) (V := O + 73) (T := O + 74) (K := O + 100) (H := O + 102) (X := O + 346) (x1 := p) (x2 := q (10 + p)) hWc2.1.y hWc2.1.w hWc2.1.p hWc2.1.s hWc2.2.1.p hWc2.2.1.s hQ hV hp rfl hq10 hWc2.2.1.l))) (by omega)).mono (fun o9 g21t M21t p21t => ?_)
      obtain ⟨rfl, eg21t, em21t⟩ := p21t
      have et21 := Fr.xx eg21t em21t
      have hYc8 := Yd.f0 hYc2 et21
      have hWc8 := CW.f0 hWc2 et21
      have f8 := Fr.trans f2 (Fr.of0 et21)
      refine kt_v (pc' := 221) rfl <| ok_iconst (pc' := 222) i217_221 rfl <| ok_kc1 (pc1 := 227) (pc2 := 225) i217_222 (by decide) rfl rfl <| ok_iconst (pc' := 228) i217_227 rfl <| ok_istore (pc' := 230) (ls' := [aR O, aR 101, aI (am_or a 0), aI p, aR (A.P p), aR (A.R (r38 q s p)), aI 0]) i217_228 (bt rfl) rfl rfl <| ?_
      refine w217_230 (d := d) hYc8 hWc8 hp (by first | rfl | exact hw5) (fun k => ?_)
      refine ok_iconst (pc' := 262) i217_261 rfl <| ok_istore (pc' := 264) (ls' := [aR O, aR 101, aI (am_or a 0), aI p, aR (A.P p), aR (A.R (r38 q s p)), aI 0]) i217_262 (bt rfl) rfl rfl <| ?_
      refine w217_264 (d := d) hYc8 hWc8 hp (by first | rfl | exact hw5) (fun k => ?_)
      refine ok_iinc (pc' := 338) (v := (p + 1)) (ls' := [aR O, aR 101, aI (am_or a 0), aI (p + 1), aR (A.P p), aR (A.R (r38 q s p)), aI k]) i217_335 rfl rfl rfl rfl <| ok_goto (pc' := 133) i217_338 rfl <| ?_
      have hset : (am_or a 0) = itv (f125_8 q s) 0 0 (n + 1) ∧ am_or (am_or a 0) 0 = (am_or a 0) := by
        rw [itv_1 hpn, ← ha]; unfold f125_8
        rw [if_pos (show r39 q s p = 0 by omega)]; exact ⟨hor, or_or⟩
      exact ih (n + 1) _ _ _ (by omega) ⟨by omega, p + 1, _, by omega, hset.1, hset.2, hYc8, hWc8, Fr.w f8 (by omega) (by omega), _, _, _, rfl, by first | rfl | exact hw5, rfl, rfl⟩
  · refine ok_iconst (pc' := 169) i217_168 rfl <| ok_iloadn (pc' := 170) i217_169 rfl rfl <| ok_ishl (v := (am_shl 1 p)) (pc' := 171) i217_170 rfl rfl <| ok_goto (pc' := 175) i217_171 rfl <| ok_ior (v := (am_or a (am_shl 1 p))) (pc' := 176) i217_175 rfl rfl <| ok_istoren (pc' := 177) (ls' := [aR O, aR 101, aI (am_or a (am_shl 1 p)), aI p, aR (A.P p), aR (nulR A.R (r38 q s p)), w6]) i217_176 (bt rfl) rfl rfl <| ok_aloadn (pc' := 178) i217_177 rfl rfl <| ok_iloadn (pc' := 179) i217_178 rfl rfl <| ?_
    refine ok_cc i217_179 rfl (cl_v o217 m13_307 na107 rfl rfl (bt rfl) (bt rfl) rfl (by rw [(ShYard_k0 hWc2.1.y), o107])) ln107 (pd107 (aR O) (aI p)) <| (Ok.deep (y107 (Y := O) (P := O + 38) (A := O + 49) (V := O + 73) (T := O + 74) (K := O + 100) (H := O + 102) (X := O + 346) (x1 := p) hWc2.1.y hWc2.1.w hWc2.1.p hWc2.1.s hWc2.2.1.p hWc2.2.1.s hQ hV hp hWc2.2.1.l) (by omega)).mono (fun o9 g22q M22q p22q => ?_)
    obtain ⟨rfl, eg22q, em22q⟩ := p22q
    rw [eg22q, em22q]
    refine kt_v (pc' := 182) rfl <| ok_aload (pc' := 184) i217_182 rfl rfl <| ok_arrlen (v := (q (10 + p))) (pc' := 185) i217_184 ((hYc2.gr.pp p (by omega) (by omega)).2.2.1) (by decide) ((hYc2.gr.pp p (by omega) (by omega)).2.2.2) rfl <| ok_cnes (pc1 := 225) (pc2 := 188) i217_185 rfl rfl <| ok_aloadn (pc' := 189) i217_188 rfl rfl <| ok_iloadn (pc' := 190) i217_189 rfl rfl <| ?_
    refine ok_cc i217_190 rfl (cl_v o217 m13_310 na124 rfl rfl (bt rfl) (bt rfl) rfl (by rw [(ShYard_k0 hWc2.1.y), o124])) ln124 (pd124 (aR O) (aI p)) <| (Ok.deep (y124 (Y := O) (P := O + 38) (A := O + 49) (V := O + 73) (T := O + 74) (K := O + 100) (H := O + 102) (X := O + 346) (x1 := p) hWc2.1.y hWc2.1.w hWc2.1.p hWc2.1.s hWc2.2.1.p hWc2.2.1.s hQ hV hp hWc2.2.1.l) (by omega)).mono (fun o9 g23q M23q p23q => ?_)
    obtain ⟨rfl, eg23q, em23q⟩ := p23q
    rw [eg23q, em23q]
    refine kt_v (pc' := 193) rfl <| ok_aload (pc' := 195) i217_193 rfl rfl <| ?_
    by_cases u9 : (r38 q s p) = -1
    · rw [show nulR A.R (r38 q s p) = 0 by rw [u9, nulR_0]]
      refine ok_ifnn1 (pc1 := 198) i217_195 (by decide) rfl <| ok_iconst (pc' := 199) i217_198 rfl <| ok_goto (pc' := 207) i217_199 rfl <| ?_
      refine ok_cne (pc1 := 225) (pc2 := 210) i217_207 (by omega) rfl rfl (fun h9 => by exfalso; omega) (fun h10 => ?_)
      refine ok_aloadn (pc' := 211) i217_210 rfl rfl <| ok_iconst (pc' := 212) i217_211 rfl <| ok_iloadn (pc' := 213) i217_212 rfl rfl <| ok_aload (pc' := 215) i217_213 rfl rfl <| ok_arrlen (v := (q (10 + p))) (pc' := 216) i217_215 ((hYc2.gr.pp p (by omega) (by omega)).2.2.1) (by decide) ((hYc2.gr.pp p (by omega) (by omega)).2.2.2) rfl <| ok_iconst (pc' := 217) i217_216 rfl <| ok_iconst (pc' := 218) i217_217 rfl <| ?_
      refine ok_cc i217_218 rfl (cl_s o217 m13_234 na211 rfl rfl (bt rfl) (bt rfl) rfl) ln211 (pd211 (aR O) (aI 4) (aI p) (aI (q (10 + p))) (aI 0) (aI 0)) <| (Ok.deep (t211_2 (k212_4 (lev := 1) (ShYard_k0 hWc2.1.y) (by omega) (y109_x (Y := O) (P := O + 38) (A := O + 49) (V := O + 73) (T := O + 74) (K := O + 100) (H := O + 102) (X := O + 346) (x1 := p) (x2 := q (10 + p)) hWc2.1.y hWc2.1.w hWc2.1.p hWc2.1.s hWc2.2.1.p hWc2.2.1.s hQ hV hp rfl hq10 hWc2.2.1.l))) (by omega)).mono (fun o9 g24t M24t p24t => ?_)
      obtain ⟨rfl, eg24t, em24t⟩ := p24t
      have et24 := Fr.xx eg24t em24t
      have hYc11 := Yd.f0 hYc2 et24
      have hWc11 := CW.f0 hWc2 et24
      have f11 := Fr.trans f2 (Fr.of0 et24)
      refine kt_v (pc' := 221) rfl <| ok_iconst (pc' := 222) i217_221 rfl <| ok_kc1 (pc1 := 227) (pc2 := 225) i217_222 (by decide) rfl rfl <| ok_iconst (pc' := 228) i217_227 rfl <| ok_istore (pc' := 230) (ls' := [aR O, aR 101, aI (am_or a (am_shl 1 p)), aI p, aR (A.P p), aR 0, aI 0]) i217_228 (bt rfl) rfl rfl <| ?_
      refine w217_230 (d := d) hYc11 hWc11 hp (by first | rfl | exact hw5) (fun k => ?_)
      refine ok_iconst (pc' := 262) i217_261 rfl <| ok_istore (pc' := 264) (ls' := [aR O, aR 101, aI (am_or a (am_shl 1 p)), aI p, aR (A.P p), aR 0, aI 0]) i217_262 (bt rfl) rfl rfl <| ?_
      refine w217_264 (d := d) hYc11 hWc11 hp (by first | rfl | exact hw5) (fun k => ?_)
      refine ok_iinc (pc' := 338) (v := (p + 1)) (ls' := [aR O, aR 101, aI (am_or a (am_shl 1 p)), aI (p + 1), aR (A.P p), aR 0, aI k]) i217_335 rfl rfl rfl rfl <| ok_goto (pc' := 133) i217_338 rfl <| ?_
      have hset : (am_or a (am_shl 1 p)) = itv (f125_8 q s) 0 0 (n + 1) ∧ am_or (am_or a (am_shl 1 p)) 0 = (am_or a (am_shl 1 p)) := by
        rw [itv_1 hpn, ← ha]; unfold f125_8
        rw [if_neg (show ¬ (r39 q s p = 0) by omega)]; exact ⟨rfl, or_or⟩
      exact ih (n + 1) _ _ _ (by omega) ⟨by omega, p + 1, _, by omega, hset.1, hset.2, hYc11, hWc11, Fr.w f11 (by omega) (by omega), _, _, _, rfl, by first | rfl | exact hw5, rfl, rfl⟩
    · rw [show nulR A.R (r38 q s p) = A.R (r38 q s p) from nulR_1 u9]
      have z12 : 0 ≤ (r38 q s p) ∧ (r38 q s p) < s 3 := by omega
      refine ok_ifnn0 (pc1 := 202) i217_195 (Or.inl (Nat.le_trans (by decide) (hYc2.gr.rr (r38 q s p) (by omega) (by omega)).2.1.1)) rfl <| ok_aload (pc' := 204) i217_202 rfl rfl <| ok_getfi (v := (r38 q s p)) (pc' := 207) i217_204 o217 gi13_253 ((hYc2.gr.rr (r38 q s p) (by omega) (by omega)).2.2) ((hYc2.mr.rn (r38 q s p) (by omega) (by omega))) rfl <| ok_cnes (pc1 := 225) (pc2 := 210) i217_207 rfl rfl <| ok_aloadn (pc' := 211) i217_210 rfl rfl <| ok_iconst (pc' := 212) i217_211 rfl <| ok_iloadn (pc' := 213) i217_212 rfl rfl <| ok_aload (pc' := 215) i217_213 rfl rfl <| ?_
      refine ok_arrlen (v := (q (10 + p))) (pc' := 216) i217_215 ((hYc2.gr.pp p (by omega) (by omega)).2.2.1) (by decide) ((hYc2.gr.pp p (by omega) (by omega)).2.2.2) rfl <| ok_iconst (pc' := 217) i217_216 rfl <| ok_iconst (pc' := 218) i217_217 rfl <| ?_
      refine ok_cc i217_218 rfl (cl_s o217 m13_234 na211 rfl rfl (bt rfl) (bt rfl) rfl) ln211 (pd211 (aR O) (aI 4) (aI p) (aI (q (10 + p))) (aI 0) (aI 0)) <| (Ok.deep (t211_2 (k212_4 (lev := 1) (ShYard_k0 hWc2.1.y) (by omega) (y109_x (Y := O) (P := O + 38) (A := O + 49) (V := O + 73) (T := O + 74) (K := O + 100) (H := O + 102) (X := O + 346) (x1 := p) (x2 := q (10 + p)) hWc2.1.y hWc2.1.w hWc2.1.p hWc2.1.s hWc2.2.1.p hWc2.2.1.s hQ hV hp rfl hq10 hWc2.2.1.l))) (by omega)).mono (fun o9 g25t M25t p25t => ?_)
      obtain ⟨rfl, eg25t, em25t⟩ := p25t
      have et25 := Fr.xx eg25t em25t
      have hYc13 := Yd.f0 hYc2 et25
      have hWc13 := CW.f0 hWc2 et25
      have f13 := Fr.trans f2 (Fr.of0 et25)
      refine kt_v (pc' := 221) rfl <| ok_iconst (pc' := 222) i217_221 rfl <| ok_kc1 (pc1 := 227) (pc2 := 225) i217_222 (by decide) rfl rfl <| ok_iconst (pc' := 228) i217_227 rfl <| ok_istore (pc' := 230) (ls' := [aR O, aR 101, aI (am_or a (am_shl 1 p)), aI p, aR (A.P p), aR (A.R (r38 q s p)), aI 0]) i217_228 (bt rfl) rfl rfl <| ?_
      refine w217_230 (d := d) hYc13 hWc13 hp (by first | rfl | exact hw5) (fun k => ?_)
      refine ok_iconst (pc' := 262) i217_261 rfl <| ok_istore (pc' := 264) (ls' := [aR O, aR 101, aI (am_or a (am_shl 1 p)), aI p, aR (A.P p), aR (A.R (r38 q s p)), aI 0]) i217_262 (bt rfl) rfl rfl <| ?_
      refine w217_264 (d := d) hYc13 hWc13 hp (by first | rfl | exact hw5) (fun k => ?_)
      refine ok_iinc (pc' := 338) (v := (p + 1)) (ls' := [aR O, aR 101, aI (am_or a (am_shl 1 p)), aI (p + 1), aR (A.P p), aR (A.R (r38 q s p)), aI k]) i217_335 rfl rfl rfl rfl <| ok_goto (pc' := 133) i217_338 rfl <| ?_
      have hset : (am_or a (am_shl 1 p)) = itv (f125_8 q s) 0 0 (n + 1) ∧ am_or (am_or a (am_shl 1 p)) 0 = (am_or a (am_shl 1 p)) := by
        rw [itv_1 hpn, ← ha]; unfold f125_8
        rw [if_neg (show ¬ (r39 q s p = 0) by omega)]; exact ⟨rfl, or_or⟩
      exact ih (n + 1) _ _ _ (by omega) ⟨by omega, p + 1, _, by omega, hset.1, hset.2, hYc13, hWc13, Fr.w f13 (by omega) (by omega), _, _, _, rfl, by first | rfl | exact hw5, rfl, rfl⟩
theorem w217_341 {g : AG} {M : AM} {O : Nat} {A : YA} {s q : Int → Int} {b : Int} {d : Nat} {Q : AO → AG → AM → Prop} {w4 w5 w6 : AV} (hY : Yd g M O A s q) (hW : CW g M O b q s) (hw4 : am_cat w4 = 1) (hw5 : am_cat w5 = 1) (hw6 : am_cat w6 = 1) (hret : Q (.inl (some (aI 1))) g M) : Ok (d + 12) 217 341 [aR O, aR 101, aI (itv (f125_8 q s) 0 0 (q 1).toNat), aI (q 1), w4, w5, w6] [] g M Q := by
  have hV := hW.2.1.v
  have hQ := V_q hV
  have y3 := V_3 hV
  have y4 := V_4 hV
  have y5 := V_5 hV
  have yq0 := Q_0 hQ
  have yq1 := Q_1 hQ
  refine ok_aloadn (pc' := 342) i217_341 rfl rfl <| ?_
  refine ok_cc i217_342 rfl (cl_v o217 m13_317 na125 rfl rfl (bt rfl) (bt rfl) rfl (by rw [(ShYard_k0 hW.1.y), o125])) ln125 (pd125 (aR O)) <| (Ok.deep (y125 (Y := O) (P := O + 38) (A := O + 49) (V := O + 73) (T := O + 74) (K := O + 100) (H := O + 102) (X := O + 346) hW.1.y hW.1.w hW.1.p hW.1.s hW.2.1.p hW.2.1.s hQ hV hW.2.1.l) (by omega)).mono (fun o9 g26q M26q p26q => ?_)
  obtain ⟨rfl, eg26q, em26q⟩ := p26q
  rw [eg26q, em26q]
  refine kt_v (pc' := 345) rfl <| ok_iloadn (pc' := 346) i217_345 rfl rfl <| ok_cnes (pc1 := 353) (pc2 := 349) i217_346 rfl rfl <| ok_iconst (pc' := 350) i217_349 rfl <| ok_goto (pc' := 354) i217_350 rfl <| ok_iretz i217_354 rt217 (by decide) <| ?_
  exact hret
/-- the lengths, the patterns -/
theorem t217 {g : AG} {M : AM} {O : Nat} {A : YA} {s q : Int → Int} {b : Int} (hY : Yd g M O A s q) (hW : CW g M O b q s) : Ok 12 217 0 [aR O, aR 101, aU, aU, aU, aU, aU] [] g M (fun o g1 M1 => o = .inl (some (aI 1)) ∧ Fr FN 19 1249 g M g1 M1 ∧ Yd g1 M1 O A s q ∧ CW g1 M1 O b q s) := by
  refine ok_iconst (pc' := 1) i217_0 rfl <| ok_istoren (pc' := 2) (ls' := [aR O, aR 101, aI 1, aU, aU, aU, aU]) i217_1 (bt rfl) rfl rfl <| ?_
  refine w217_2 (d := 0) hY hW (fun g1 M1 v w3 w4 w5 hw3 hw4 hw5 hY1 hW1 f1 => ?_)
  refine ok_iconst (pc' := 130) i217_129 rfl <| ok_istoren (pc' := 131) (ls' := [aR O, aR 101, aI 0, w3, w4, w5, aU]) i217_130 (bt rfl) rfl rfl <| ok_iconst (pc' := 132) i217_131 rfl <| ok_istoren (pc' := 133) (ls' := [aR O, aR 101, aI 0, aI 0, w4, w5, aU]) i217_132 (bt rfl) rfl rfl <| ?_
  refine w217_133 (d := 0) hY1 hW1 hw4 hw5 (fun g2 M2 w4 w5 w6 hw4 hw5 hw6 hY2 hW2 f2 => ?_)
  exact w217_341 (d := 0) hY2 hW2 hw4 hw5 hw6 ⟨rfl, Fr.trans f1 f2, hY2, hW2⟩
