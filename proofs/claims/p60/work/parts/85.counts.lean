/-! COUNTS (by program, wip/p60/gen) -/
theorem o216 : am_oc 216 = 13 := by decide +kernel
theorem gr13_241 : am_gfr 13 241 17 1 = true := by decide +kernel
theorem m13_269 : am_mlk 13 269 0 205 = true := by decide +kernel
theorem m13_273 : am_mlk 13 273 0 199 = true := by decide +kernel
theorem gi13_231 : am_gfi 13 231 17 8 = true := by decide +kernel
theorem gi13_257 : am_gfi 13 257 17 9 = true := by decide +kernel
theorem m13_276 : am_mlk 13 276 0 208 = true := by decide +kernel
theorem na208 : am_na 208 = 0 := by decide +kernel
theorem nl208 : am_nL 208 = 3 := by decide +kernel
theorem pd208 : ∀ a0 : AV, am_pad 208 [a0] = [a0, aU, aU] := by intros; unfold am_pad; rw [nl208]; rfl
theorem ln208 : 1 ≤ am_nL 208 := by rw [nl208]; decide
theorem m13_279 : am_mlk 13 279 0 118 = true := by decide +kernel
theorem na118 : am_na 118 = 0 := by decide +kernel
theorem nl118 : am_nL 118 = 3 := by decide +kernel
theorem pd118 : ∀ a0 : AV, am_pad 118 [a0] = [a0, aU, aU] := by intros; unfold am_pad; rw [nl118]; rfl
theorem ln118 : 1 ≤ am_nL 118 := by rw [nl118]; decide
theorem m13_282 : am_mlk 13 282 0 119 = true := by decide +kernel
theorem na119 : am_na 119 = 0 := by decide +kernel
theorem nl119 : am_nL 119 = 3 := by decide +kernel
theorem pd119 : ∀ a0 : AV, am_pad 119 [a0] = [a0, aU, aU] := by intros; unfold am_pad; rw [nl119]; rfl
theorem ln119 : 1 ≤ am_nL 119 := by rw [nl119]; decide
theorem m13_285 : am_mlk 13 285 0 121 = true := by decide +kernel
theorem na121 : am_na 121 = 0 := by decide +kernel
theorem nl121 : am_nL 121 = 3 := by decide +kernel
theorem pd121 : ∀ a0 : AV, am_pad 121 [a0] = [a0, aU, aU] := by intros; unfold am_pad; rw [nl121]; rfl
theorem ln121 : 1 ≤ am_nL 121 := by rw [nl121]; decide
theorem m13_288 : am_mlk 13 288 0 120 = true := by decide +kernel
theorem na120 : am_na 120 = 0 := by decide +kernel
theorem nl120 : am_nL 120 = 1 := by decide +kernel
theorem pd120 : ∀ a0 : AV, am_pad 120 [a0] = [a0] := by intros; unfold am_pad; rw [nl120]; rfl
theorem ln120 : 1 ≤ am_nL 120 := by rw [nl120]; decide
theorem m13_291 : am_mlk 13 291 0 117 = true := by decide +kernel
theorem na117 : am_na 117 = 0 := by decide +kernel
theorem nl117 : am_nL 117 = 1 := by decide +kernel
theorem pd117 : ∀ a0 : AV, am_pad 117 [a0] = [a0] := by intros; unfold am_pad; rw [nl117]; rfl
theorem ln117 : 1 ≤ am_nL 117 := by rw [nl117]; decide
theorem m13_294 : am_mlk 13 294 0 136 = true := by decide +kernel
theorem na136 : am_na 136 = 0 := by decide +kernel
theorem nl136 : am_nL 136 = 2 := by decide +kernel
theorem pd136 : ∀ a0 : AV, am_pad 136 [a0] = [a0, aU] := by intros; unfold am_pad; rw [nl136]; rfl
theorem ln136 : 1 ≤ am_nL 136 := by rw [nl136]; decide
theorem m13_298 : am_mlk 13 298 0 137 = true := by decide +kernel
theorem na137 : am_na 137 = 0 := by decide +kernel
theorem nl137 : am_nL 137 = 3 := by decide +kernel
theorem pd137 : ∀ a0 : AV, am_pad 137 [a0] = [a0, aU, aU] := by intros; unfold am_pad; rw [nl137]; rfl
theorem ln137 : 1 ≤ am_nL 137 := by rw [nl137]; decide
theorem rt216 : am_rt 216 = some .boolean := by decide +kernel
theorem gi13_253 : am_gfi 13 253 16 0 = true := by decide +kernel
theorem gi13_247 : am_gfi 13 247 15 0 = true := by decide +kernel
theorem r23_34 {s : Int → Int} : r34 s 1 2 = r23 s := by
  have h := itv_congr (f := f34 s 1 2) (f' := f23 s) (a0 := (-1 : Int)) (b0 := (-1 : Int)) (lo := 0) (fun _ a c => a = c) rfl (s 3).toNat (fun i a c _ _ e => by subst e; unfold f34 f23; (repeat' split) <;> omega)
  exact h
theorem r24_218 {b : Int} {q s : Int → Int} (hV : Val b q s) : r218 s 0 = r24 s 200 := by
  have y4 := V_4 hV
  have h := itv_congr (f := f218 s 0) (f' := f24 s 200) (a0 := (-1 : Int)) (b0 := (-1 : Int)) (lo := 0) (fun _ a c => a = c) rfl (s 4).toNat (fun i a c i0 i1 e => by
    subst e
    have z := V_o0 hV i0 (show i < s 4 by omega)
    unfold f218 f24
    (repeat' split) <;> omega)
  exact h
theorem itv_1 {σ : Type} {f : Int → σ → σ} {a0 : σ} {k : Nat} {i : Int} (h : i = (k : Int)) : itv f a0 0 (k + 1) = f i (itv f a0 0 k) := by
  show f (0 + (k : Int)) _ = _
  rw [Int.zero_add, h]
theorem w216_19 {g : AG} {M : AM} {O : Nat} {A : YA} {s q : Int → Int} {b : Int} {d : Nat} {Q : AO → AG → AM → Prop} (hY : Yd g M O A s q) (hW : CW g M O b q s) (K : Ok (d + 12) 216 103 [aR O, aR 101, aI (r18 s), aI 0, aI 0, aI 0, aI (itv (f215_13 s) 0 0 ((s 3).toNat)), aI (itv (f216_13 s q) 0 0 ((s 3).toNat)), aI (s 3), aU, aU, aU, aU, aU] [] g M Q) : Ok (d + 12) 216 19 [aR O, aR 101, aI 0, aI 0, aI 0, aI 0, aI 0, aI 0, aI 0, aU, aU, aU, aU, aU] [] g M Q := by
  have hV := hW.2.1.v
  have hQ := V_q hV
  have y3 := V_3 hV
  have y4 := V_4 hV
  have y5 := V_5 hV
  have yq0 := Q_0 hQ
  have yq1 := Q_1 hQ
  refine ok_lp (σ := Nat) (fun k ls g9 M9 => k ≤ (s 3).toNat ∧ g9 = g ∧ M9 = M ∧ ∃ i : Int, i = (k : Int) ∧ ls = [aR O, aR 101, aI (itv (f18 s) 0 0 k), aI 0, aI 0, aI 0, aI (itv (f215_13 s) 0 0 k), aI (itv (f216_13 s q) 0 0 k), aI i, aU, aU, aU, aU, aU]) (fun k => (s 3).toNat - k) ?_ 0 _ g M ⟨Nat.zero_le _, rfl, rfl, 0, rfl, rfl⟩
  rintro k ls g9 M9 ⟨hk, rfl, rfl, i, hi, rfl⟩ ih
  have hi0 : 0 ≤ i ∧ i ≤ s 3 := by omega
  refine ok_iload (pc' := 21) i216_19 rfl rfl <| ok_aloadn (pc' := 22) i216_21 rfl rfl <| ok_getfi (v := (s 3)) (pc' := 25) i216_22 o216 gi13_152 (hY.gr.ky) ((Yd.n3 hY)) rfl <| ?_
  refine ok_cge (pc1 := 103) (pc2 := 28) i216_25 (by omega) rfl rfl (fun h1 => ?_) (fun h1 => ?_)
  · have hk9 : k = (s 3).toNat := by omega
    subst hk9
    have hi9 : i = s 3 := by omega
    subst hi9
    exact K
  · refine ok_iloadn (pc' := 29) i216_28 rfl rfl <| ok_aloadn (pc' := 30) i216_29 rfl rfl <| ok_getfr (r := 107) (pc' := 33) i216_30 o216 gr13_168 (hY.gr.ky) (hY.gr.r4) rfl <| ok_iload (pc' := 35) i216_33 rfl rfl <| ok_aaload (r := (A.R i)) (pc' := 36) i216_35 (hY.gr.k7) (by decide) (hY.gr.l7) (by omega) ((hY.gr.rr i (by omega) (by omega)).1) rfl <| ?_
    have z2 : 0 ≤ s (174 + i) ∧ s (174 + i) ≤ 2 := V_d2 hV (by omega) (by omega)
    refine ok_getfi (v := (s (174 + i))) (pc' := 39) i216_36 o216 gi13_178 ((hY.gr.rr i (by omega) (by omega)).2.2) ((Yd.r3 hY (k := i) (by omega) (by omega))) rfl <| ?_
    refine ok_zne (pc1 := 46) (pc2 := 42) i216_39 (by omega) rfl rfl (fun h3 => ?_) (fun h3 => ?_)
    · refine ok_iconst (pc' := 47) i216_46 rfl <| ok_iadd (v := ((itv (f18 s) 0 0 k) + 0)) (pc' := 48) i216_47 rfl rfl <| ok_istoren (pc' := 49) (ls' := [aR O, aR 101, aI ((itv (f18 s) 0 0 k) + 0), aI 0, aI 0, aI 0, aI (itv (f215_13 s) 0 0 k), aI (itv (f216_13 s q) 0 0 k), aI i, aU, aU, aU, aU, aU]) i216_48 (bt rfl) rfl rfl <| ok_iload (pc' := 51) i216_49 rfl rfl <| ok_aloadn (pc' := 52) i216_51 rfl rfl <| ok_getfr (r := 107) (pc' := 55) i216_52 o216 gr13_168 (hY.gr.ky) (hY.gr.r4) rfl <| ok_iload (pc' := 57) i216_55 rfl rfl <| ok_aaload (r := (A.R i)) (pc' := 58) i216_57 (hY.gr.k7) (by decide) (hY.gr.l7) (by omega) ((hY.gr.rr i (by omega) (by omega)).1) rfl <| ?_
      have z4 : 0 ≤ s (94 + i) ∧ s (94 + i) ≤ 200 := V_d1 hV (by omega) (by omega)
      refine ok_getfi (v := (s (94 + i))) (pc' := 61) i216_58 o216 gi13_176 ((hY.gr.rr i (by omega) (by omega)).2.2) ((Yd.r2 hY (k := i) (by omega) (by omega))) rfl <| ok_iadd (v := ((itv (f215_13 s) 0 0 k) + (s (94 + i)))) (pc' := 62) i216_61 rfl rfl <| ok_istore (pc' := 64) (ls' := [aR O, aR 101, aI ((itv (f18 s) 0 0 k) + 0), aI 0, aI 0, aI 0, aI ((itv (f215_13 s) 0 0 k) + (s (94 + i))), aI (itv (f216_13 s q) 0 0 k), aI i, aU, aU, aU, aU, aU]) i216_62 (bt rfl) rfl rfl <| ok_iload (pc' := 66) i216_64 rfl rfl <| ok_aloadn (pc' := 67) i216_66 rfl rfl <| ok_getfr (r := 107) (pc' := 70) i216_67 o216 gr13_168 (hY.gr.ky) (hY.gr.r4) rfl <| ok_iload (pc' := 72) i216_70 rfl rfl <| ok_aaload (r := (A.R i)) (pc' := 73) i216_72 (hY.gr.k7) (by decide) (hY.gr.l7) (by omega) ((hY.gr.rr i (by omega) (by omega)).1) rfl <| ?_
      refine ok_getfi (v := (s (94 + i))) (pc' := 76) i216_73 o216 gi13_176 ((hY.gr.rr i (by omega) (by omega)).2.2) ((Yd.r2 hY (k := i) (by omega) (by omega))) rfl <| ok_aloadn (pc' := 77) i216_76 rfl rfl <| ok_getfr (r := 104) (pc' := 80) i216_77 o216 gr13_241 (hY.gr.ky) (hY.gr.r1) rfl <| ok_aloadn (pc' := 81) i216_80 rfl rfl <| ok_getfr (r := 107) (pc' := 84) i216_81 o216 gr13_168 (hY.gr.ky) (hY.gr.r4) rfl <| ok_iload (pc' := 86) i216_84 rfl rfl <| ok_aaload (r := (A.R i)) (pc' := 87) i216_86 (hY.gr.k7) (by decide) (hY.gr.l7) (by omega) ((hY.gr.rr i (by omega) (by omega)).1) rfl <| ?_
      have z5 : 0 ≤ s (14 + i) ∧ s (14 + i) < q 0 := V_d0 hV (by omega) (by omega)
      refine ok_getfi (v := (s (14 + i))) (pc' := 90) i216_87 o216 gi13_172 ((hY.gr.rr i (by omega) (by omega)).2.2) ((Yd.r1 hY (k := i) (by omega) (by omega))) rfl <| ok_aaload (r := (A.K (s (14 + i)))) (pc' := 91) i216_90 (hY.gr.k4) (by decide) (hY.gr.l4) (by omega) ((hY.gr.kk (s (14 + i)) (by omega) (by omega)).1) rfl <| ok_iconst (pc' := 92) i216_91 rfl <| ?_
      have z6 : 1 ≤ q (6 + (s (14 + i))) ∧ q (6 + (s (14 + i))) ≤ 99 := Q_6 hQ (by omega) (by omega)
      refine ok_iaload (v := (q (6 + (s (14 + i))))) (pc' := 93) i216_92 ((hY.gr.kk (s (14 + i)) (by omega) (by omega)).2.2.1) (by decide) ((hY.gr.kk (s (14 + i)) (by omega) (by omega)).2.2.2) (by decide) ((hY.mr.kk (s (14 + i)) (by omega) (by omega)).2) rfl <| ok_imul (v := ((s (94 + i)) * (q (6 + (s (14 + i)))))) (pc' := 94) i216_93 rfl rfl <| ok_iadd (v := ((itv (f216_13 s q) 0 0 k) + ((s (94 + i)) * (q (6 + (s (14 + i))))))) (pc' := 95) i216_94 rfl rfl <| ok_istore (pc' := 97) (ls' := [aR O, aR 101, aI ((itv (f18 s) 0 0 k) + 0), aI 0, aI 0, aI 0, aI ((itv (f215_13 s) 0 0 k) + (s (94 + i))), aI ((itv (f216_13 s q) 0 0 k) + ((s (94 + i)) * (q (6 + (s (14 + i)))))), aI i, aU, aU, aU, aU, aU]) i216_95 (bt rfl) rfl rfl <| ok_iinc (pc' := 100) (v := (i + 1)) (ls' := [aR O, aR 101, aI ((itv (f18 s) 0 0 k) + 0), aI 0, aI 0, aI 0, aI ((itv (f215_13 s) 0 0 k) + (s (94 + i))), aI ((itv (f216_13 s q) 0 0 k) + ((s (94 + i)) * (q (6 + (s (14 + i)))))), aI (i + 1), aU, aU, aU, aU, aU]) i216_97 rfl rfl rfl rfl <| ok_goto (pc' := 19) i216_100 rfl <| ?_
      have q1 : ((itv (f18 s) 0 0 k) + 0) = itv (f18 s) 0 0 (k + 1) := by rw [itv_1 hi]; unfold f18; split <;> omega
      have q2 : ((itv (f215_13 s) 0 0 k) + (s (94 + i))) = itv (f215_13 s) 0 0 (k + 1) := by rw [itv_1 hi]; rfl
      have q3 : ((itv (f216_13 s q) 0 0 k) + ((s (94 + i)) * (q (6 + (s (14 + i)))))) = itv (f216_13 s q) 0 0 (k + 1) := by rw [itv_1 hi]; rfl
      exact ih (k + 1) _ _ _ (by omega) ⟨by omega, rfl, rfl, i + 1, by omega, by rw [q1, q2, q3]⟩
    · refine ok_iconst (pc' := 43) i216_42 rfl <| ok_goto (pc' := 47) i216_43 rfl <| ok_iadd (v := ((itv (f18 s) 0 0 k) + 1)) (pc' := 48) i216_47 rfl rfl <| ok_istoren (pc' := 49) (ls' := [aR O, aR 101, aI ((itv (f18 s) 0 0 k) + 1), aI 0, aI 0, aI 0, aI (itv (f215_13 s) 0 0 k), aI (itv (f216_13 s q) 0 0 k), aI i, aU, aU, aU, aU, aU]) i216_48 (bt rfl) rfl rfl <| ok_iload (pc' := 51) i216_49 rfl rfl <| ok_aloadn (pc' := 52) i216_51 rfl rfl <| ok_getfr (r := 107) (pc' := 55) i216_52 o216 gr13_168 (hY.gr.ky) (hY.gr.r4) rfl <| ok_iload (pc' := 57) i216_55 rfl rfl <| ?_
      refine ok_aaload (r := (A.R i)) (pc' := 58) i216_57 (hY.gr.k7) (by decide) (hY.gr.l7) (by omega) ((hY.gr.rr i (by omega) (by omega)).1) rfl <| ?_
      have z7 : 0 ≤ s (94 + i) ∧ s (94 + i) ≤ 200 := V_d1 hV (by omega) (by omega)
      refine ok_getfi (v := (s (94 + i))) (pc' := 61) i216_58 o216 gi13_176 ((hY.gr.rr i (by omega) (by omega)).2.2) ((Yd.r2 hY (k := i) (by omega) (by omega))) rfl <| ok_iadd (v := ((itv (f215_13 s) 0 0 k) + (s (94 + i)))) (pc' := 62) i216_61 rfl rfl <| ok_istore (pc' := 64) (ls' := [aR O, aR 101, aI ((itv (f18 s) 0 0 k) + 1), aI 0, aI 0, aI 0, aI ((itv (f215_13 s) 0 0 k) + (s (94 + i))), aI (itv (f216_13 s q) 0 0 k), aI i, aU, aU, aU, aU, aU]) i216_62 (bt rfl) rfl rfl <| ok_iload (pc' := 66) i216_64 rfl rfl <| ok_aloadn (pc' := 67) i216_66 rfl rfl <| ok_getfr (r := 107) (pc' := 70) i216_67 o216 gr13_168 (hY.gr.ky) (hY.gr.r4) rfl <| ok_iload (pc' := 72) i216_70 rfl rfl <| ok_aaload (r := (A.R i)) (pc' := 73) i216_72 (hY.gr.k7) (by decide) (hY.gr.l7) (by omega) ((hY.gr.rr i (by omega) (by omega)).1) rfl <| ?_
      refine ok_getfi (v := (s (94 + i))) (pc' := 76) i216_73 o216 gi13_176 ((hY.gr.rr i (by omega) (by omega)).2.2) ((Yd.r2 hY (k := i) (by omega) (by omega))) rfl <| ok_aloadn (pc' := 77) i216_76 rfl rfl <| ok_getfr (r := 104) (pc' := 80) i216_77 o216 gr13_241 (hY.gr.ky) (hY.gr.r1) rfl <| ok_aloadn (pc' := 81) i216_80 rfl rfl <| ok_getfr (r := 107) (pc' := 84) i216_81 o216 gr13_168 (hY.gr.ky) (hY.gr.r4) rfl <| ok_iload (pc' := 86) i216_84 rfl rfl <| ok_aaload (r := (A.R i)) (pc' := 87) i216_86 (hY.gr.k7) (by decide) (hY.gr.l7) (by omega) ((hY.gr.rr i (by omega) (by omega)).1) rfl <| ?_
      have z8 : 0 ≤ s (14 + i) ∧ s (14 + i) < q 0 := V_d0 hV (by omega) (by omega)
      refine ok_getfi (v := (s (14 + i))) (pc' := 90) i216_87 o216 gi13_172 ((hY.gr.rr i (by omega) (by omega)).2.2) ((Yd.r1 hY (k := i) (by omega) (by omega))) rfl <| ok_aaload (r := (A.K (s (14 + i)))) (pc' := 91) i216_90 (hY.gr.k4) (by decide) (hY.gr.l4) (by omega) ((hY.gr.kk (s (14 + i)) (by omega) (by omega)).1) rfl <| ok_iconst (pc' := 92) i216_91 rfl <| ?_
      have z9 : 1 ≤ q (6 + (s (14 + i))) ∧ q (6 + (s (14 + i))) ≤ 99 := Q_6 hQ (by omega) (by omega)
      refine ok_iaload (v := (q (6 + (s (14 + i))))) (pc' := 93) i216_92 ((hY.gr.kk (s (14 + i)) (by omega) (by omega)).2.2.1) (by decide) ((hY.gr.kk (s (14 + i)) (by omega) (by omega)).2.2.2) (by decide) ((hY.mr.kk (s (14 + i)) (by omega) (by omega)).2) rfl <| ok_imul (v := ((s (94 + i)) * (q (6 + (s (14 + i)))))) (pc' := 94) i216_93 rfl rfl <| ok_iadd (v := ((itv (f216_13 s q) 0 0 k) + ((s (94 + i)) * (q (6 + (s (14 + i))))))) (pc' := 95) i216_94 rfl rfl <| ok_istore (pc' := 97) (ls' := [aR O, aR 101, aI ((itv (f18 s) 0 0 k) + 1), aI 0, aI 0, aI 0, aI ((itv (f215_13 s) 0 0 k) + (s (94 + i))), aI ((itv (f216_13 s q) 0 0 k) + ((s (94 + i)) * (q (6 + (s (14 + i)))))), aI i, aU, aU, aU, aU, aU]) i216_95 (bt rfl) rfl rfl <| ok_iinc (pc' := 100) (v := (i + 1)) (ls' := [aR O, aR 101, aI ((itv (f18 s) 0 0 k) + 1), aI 0, aI 0, aI 0, aI ((itv (f215_13 s) 0 0 k) + (s (94 + i))), aI ((itv (f216_13 s q) 0 0 k) + ((s (94 + i)) * (q (6 + (s (14 + i)))))), aI (i + 1), aU, aU, aU, aU, aU]) i216_97 rfl rfl rfl rfl <| ok_goto (pc' := 19) i216_100 rfl <| ?_
      have q1 : ((itv (f18 s) 0 0 k) + 1) = itv (f18 s) 0 0 (k + 1) := by rw [itv_1 hi]; unfold f18; split <;> omega
      have q2 : ((itv (f215_13 s) 0 0 k) + (s (94 + i))) = itv (f215_13 s) 0 0 (k + 1) := by rw [itv_1 hi]; rfl
      have q3 : ((itv (f216_13 s q) 0 0 k) + ((s (94 + i)) * (q (6 + (s (14 + i)))))) = itv (f216_13 s q) 0 0 (k + 1) := by rw [itv_1 hi]; rfl
      exact ih (k + 1) _ _ _ (by omega) ⟨by omega, rfl, rfl, i + 1, by omega, by rw [q1, q2, q3]⟩
theorem w216_106 {g : AG} {M : AM} {O : Nat} {A : YA} {s q : Int → Int} {b : Int} {d : Nat} {x2 x6 x7 : Int} {Q : AO → AG → AM → Prop} (hY : Yd g M O A s q) (hW : CW g M O b q s) (K : Ok (d + 12) 216 178 [aR O, aR 101, aI x2, aI (r19 s), aI (itv (f219_13 s) 0 0 ((s 4).toNat)), aI 0, aI x6, aI x7, aI (s 4), aU, aU, aU, aU, aU] [] g M Q) : Ok (d + 12) 216 106 [aR O, aR 101, aI x2, aI 0, aI 0, aI 0, aI x6, aI x7, aI 0, aU, aU, aU, aU, aU] [] g M Q := by
  have hV := hW.2.1.v
  have hQ := V_q hV
  have y3 := V_3 hV
  have y4 := V_4 hV
  have y5 := V_5 hV
  have yq0 := Q_0 hQ
  have yq1 := Q_1 hQ
  refine ok_lp (σ := Nat) (fun k ls g9 M9 => k ≤ (s 4).toNat ∧ g9 = g ∧ M9 = M ∧ ∃ i : Int, i = (k : Int) ∧ ls = [aR O, aR 101, aI x2, aI (itv (f19 s) 0 0 k), aI (itv (f219_13 s) 0 0 k), aI 0, aI x6, aI x7, aI i, aU, aU, aU, aU, aU]) (fun k => (s 4).toNat - k) ?_ 0 _ g M ⟨Nat.zero_le _, rfl, rfl, 0, rfl, rfl⟩
  rintro k ls g9 M9 ⟨hk, rfl, rfl, i, hi, rfl⟩ ih
  have hi0 : 0 ≤ i ∧ i ≤ s 4 := by omega
  refine ok_iload (pc' := 108) i216_106 rfl rfl <| ok_aloadn (pc' := 109) i216_108 rfl rfl <| ok_getfi (v := (s 4)) (pc' := 112) i216_109 o216 gi13_155 (hY.gr.ky) ((Yd.n4 hY)) rfl <| ?_
  refine ok_cge (pc1 := 178) (pc2 := 115) i216_112 (by omega) rfl rfl (fun h1 => ?_) (fun h1 => ?_)
  · have hk9 : k = (s 4).toNat := by omega
    subst hk9
    have hi9 : i = s 4 := by omega
    subst hi9
    exact K
  · refine ok_iloadn (pc' := 116) i216_115 rfl rfl <| ok_aloadn (pc' := 117) i216_116 rfl rfl <| ok_getfr (r := 108) (pc' := 120) i216_117 o216 gr13_188 (hY.gr.ky) (hY.gr.r5) rfl <| ok_iload (pc' := 122) i216_120 rfl rfl <| ok_aaload (r := (A.D i)) (pc' := 123) i216_122 (hY.gr.k8) (by decide) (hY.gr.l8) (by omega) ((hY.gr.dd i (by omega) (by omega)).1) rfl <| ?_
    have z2 : 0 ≤ s ((414 + (8 * i)) + 4) ∧ s ((414 + (8 * i)) + 4) ≤ 9 := V_o4 hV (by omega) (by omega)
    refine ok_getfi (v := (s ((414 + (8 * i)) + 4))) (pc' := 126) i216_123 o216 gi13_204 ((hY.gr.dd i (by omega) (by omega)).2.2) ((Yd.d5 hY (k := i) (by omega) (by omega))) rfl <| ?_
    refine ok_zle (pc1 := 133) (pc2 := 129) i216_126 (by omega) rfl rfl (fun h3 => ?_) (fun h3 => ?_)
    · refine ok_iconst (pc' := 134) i216_133 rfl <| ok_iadd (v := ((itv (f19 s) 0 0 k) + 0)) (pc' := 135) i216_134 rfl rfl <| ok_istoren (pc' := 136) (ls' := [aR O, aR 101, aI x2, aI ((itv (f19 s) 0 0 k) + 0), aI (itv (f219_13 s) 0 0 k), aI 0, aI x6, aI x7, aI i, aU, aU, aU, aU, aU]) i216_135 (bt rfl) rfl rfl <| ok_iload (pc' := 138) i216_136 rfl rfl <| ok_aloadn (pc' := 139) i216_138 rfl rfl <| ok_getfr (r := 108) (pc' := 142) i216_139 o216 gr13_188 (hY.gr.ky) (hY.gr.r5) rfl <| ok_iload (pc' := 144) i216_142 rfl rfl <| ok_aaload (r := (A.D i)) (pc' := 145) i216_144 (hY.gr.k8) (by decide) (hY.gr.l8) (by omega) ((hY.gr.dd i (by omega) (by omega)).1) rfl <| ?_
      have z4 : 0 ≤ s ((414 + (8 * i)) + 3) ∧ s ((414 + (8 * i)) + 3) ≤ 999 := V_o3 hV (by omega) (by omega)
      refine ok_getfi (v := (s ((414 + (8 * i)) + 3))) (pc' := 148) i216_145 o216 gi13_201 ((hY.gr.dd i (by omega) (by omega)).2.2) ((Yd.d4 hY (k := i) (by omega) (by omega))) rfl <| ok_aloadn (pc' := 149) i216_148 rfl rfl <| ?_
      have z5 : 0 ≤ s 0 ∧ s 0 ≤ 1000000 := V_0 hV
      refine ok_getfi (v := (s 0)) (pc' := 152) i216_149 o216 gi13_141 (hY.gr.ky) ((Yd.n0 hY)) rfl <| ?_
      refine ok_cge (pc1 := 168) (pc2 := 155) i216_152 (by omega) rfl rfl (fun h6 => ?_) (fun h6 => ?_)
      · refine ok_iconst (pc' := 169) i216_168 rfl <| ok_iadd (v := ((itv (f219_13 s) 0 0 k) + 0)) (pc' := 170) i216_169 rfl rfl <| ok_istore (pc' := 172) (ls' := [aR O, aR 101, aI x2, aI ((itv (f19 s) 0 0 k) + 0), aI ((itv (f219_13 s) 0 0 k) + 0), aI 0, aI x6, aI x7, aI i, aU, aU, aU, aU, aU]) i216_170 (bt rfl) rfl rfl <| ok_iinc (pc' := 175) (v := (i + 1)) (ls' := [aR O, aR 101, aI x2, aI ((itv (f19 s) 0 0 k) + 0), aI ((itv (f219_13 s) 0 0 k) + 0), aI 0, aI x6, aI x7, aI (i + 1), aU, aU, aU, aU, aU]) i216_172 rfl rfl rfl rfl <| ok_goto (pc' := 106) i216_175 rfl <| ?_
        have q1 : ((itv (f19 s) 0 0 k) + 0) = itv (f19 s) 0 0 (k + 1) := by rw [itv_1 hi]; unfold f19; split <;> omega
        have q2 : ((itv (f219_13 s) 0 0 k) + 0) = itv (f219_13 s) 0 0 (k + 1) := by rw [itv_1 hi]; unfold f219_13; split <;> omega
        exact ih (k + 1) _ _ _ (by omega) ⟨by omega, rfl, rfl, i + 1, by omega, by rw [q1, q2]⟩
      · refine ok_aloadn (pc' := 156) i216_155 rfl rfl <| ok_getfr (r := 108) (pc' := 159) i216_156 o216 gr13_188 (hY.gr.ky) (hY.gr.r5) rfl <| ok_iload (pc' := 161) i216_159 rfl rfl <| ok_aaload (r := (A.D i)) (pc' := 162) i216_161 (hY.gr.k8) (by decide) (hY.gr.l8) (by omega) ((hY.gr.dd i (by omega) (by omega)).1) rfl <| ok_getfi (v := (s ((414 + (8 * i)) + 4))) (pc' := 165) i216_162 o216 gi13_204 ((hY.gr.dd i (by omega) (by omega)).2.2) ((Yd.d5 hY (k := i) (by omega) (by omega))) rfl <| ok_goto (pc' := 169) i216_165 rfl <| ok_iadd (v := ((itv (f219_13 s) 0 0 k) + (s ((414 + (8 * i)) + 4)))) (pc' := 170) i216_169 rfl rfl <| ok_istore (pc' := 172) (ls' := [aR O, aR 101, aI x2, aI ((itv (f19 s) 0 0 k) + 0), aI ((itv (f219_13 s) 0 0 k) + (s ((414 + (8 * i)) + 4))), aI 0, aI x6, aI x7, aI i, aU, aU, aU, aU, aU]) i216_170 (bt rfl) rfl rfl <| ?_
        refine ok_iinc (pc' := 175) (v := (i + 1)) (ls' := [aR O, aR 101, aI x2, aI ((itv (f19 s) 0 0 k) + 0), aI ((itv (f219_13 s) 0 0 k) + (s ((414 + (8 * i)) + 4))), aI 0, aI x6, aI x7, aI (i + 1), aU, aU, aU, aU, aU]) i216_172 rfl rfl rfl rfl <| ok_goto (pc' := 106) i216_175 rfl <| ?_
        have q1 : ((itv (f19 s) 0 0 k) + 0) = itv (f19 s) 0 0 (k + 1) := by rw [itv_1 hi]; unfold f19; split <;> omega
        have q2 : ((itv (f219_13 s) 0 0 k) + (s ((414 + (8 * i)) + 4))) = itv (f219_13 s) 0 0 (k + 1) := by rw [itv_1 hi]; unfold f219_13; split <;> omega
        exact ih (k + 1) _ _ _ (by omega) ⟨by omega, rfl, rfl, i + 1, by omega, by rw [q1, q2]⟩
    · refine ok_iconst (pc' := 130) i216_129 rfl <| ok_goto (pc' := 134) i216_130 rfl <| ok_iadd (v := ((itv (f19 s) 0 0 k) + 1)) (pc' := 135) i216_134 rfl rfl <| ok_istoren (pc' := 136) (ls' := [aR O, aR 101, aI x2, aI ((itv (f19 s) 0 0 k) + 1), aI (itv (f219_13 s) 0 0 k), aI 0, aI x6, aI x7, aI i, aU, aU, aU, aU, aU]) i216_135 (bt rfl) rfl rfl <| ok_iload (pc' := 138) i216_136 rfl rfl <| ok_aloadn (pc' := 139) i216_138 rfl rfl <| ok_getfr (r := 108) (pc' := 142) i216_139 o216 gr13_188 (hY.gr.ky) (hY.gr.r5) rfl <| ok_iload (pc' := 144) i216_142 rfl rfl <| ?_
      refine ok_aaload (r := (A.D i)) (pc' := 145) i216_144 (hY.gr.k8) (by decide) (hY.gr.l8) (by omega) ((hY.gr.dd i (by omega) (by omega)).1) rfl <| ?_
      have z7 : 0 ≤ s ((414 + (8 * i)) + 3) ∧ s ((414 + (8 * i)) + 3) ≤ 999 := V_o3 hV (by omega) (by omega)
      refine ok_getfi (v := (s ((414 + (8 * i)) + 3))) (pc' := 148) i216_145 o216 gi13_201 ((hY.gr.dd i (by omega) (by omega)).2.2) ((Yd.d4 hY (k := i) (by omega) (by omega))) rfl <| ok_aloadn (pc' := 149) i216_148 rfl rfl <| ?_
      have z8 : 0 ≤ s 0 ∧ s 0 ≤ 1000000 := V_0 hV
      refine ok_getfi (v := (s 0)) (pc' := 152) i216_149 o216 gi13_141 (hY.gr.ky) ((Yd.n0 hY)) rfl <| ?_
      refine ok_cge (pc1 := 168) (pc2 := 155) i216_152 (by omega) rfl rfl (fun h9 => ?_) (fun h9 => ?_)
      · refine ok_iconst (pc' := 169) i216_168 rfl <| ok_iadd (v := ((itv (f219_13 s) 0 0 k) + 0)) (pc' := 170) i216_169 rfl rfl <| ok_istore (pc' := 172) (ls' := [aR O, aR 101, aI x2, aI ((itv (f19 s) 0 0 k) + 1), aI ((itv (f219_13 s) 0 0 k) + 0), aI 0, aI x6, aI x7, aI i, aU, aU, aU, aU, aU]) i216_170 (bt rfl) rfl rfl <| ok_iinc (pc' := 175) (v := (i + 1)) (ls' := [aR O, aR 101, aI x2, aI ((itv (f19 s) 0 0 k) + 1), aI ((itv (f219_13 s) 0 0 k) + 0), aI 0, aI x6, aI x7, aI (i + 1), aU, aU, aU, aU, aU]) i216_172 rfl rfl rfl rfl <| ok_goto (pc' := 106) i216_175 rfl <| ?_
        have q1 : ((itv (f19 s) 0 0 k) + 1) = itv (f19 s) 0 0 (k + 1) := by rw [itv_1 hi]; unfold f19; split <;> omega
        have q2 : ((itv (f219_13 s) 0 0 k) + 0) = itv (f219_13 s) 0 0 (k + 1) := by rw [itv_1 hi]; unfold f219_13; split <;> omega
        exact ih (k + 1) _ _ _ (by omega) ⟨by omega, rfl, rfl, i + 1, by omega, by rw [q1, q2]⟩
      · refine ok_aloadn (pc' := 156) i216_155 rfl rfl <| ok_getfr (r := 108) (pc' := 159) i216_156 o216 gr13_188 (hY.gr.ky) (hY.gr.r5) rfl <| ok_iload (pc' := 161) i216_159 rfl rfl <| ok_aaload (r := (A.D i)) (pc' := 162) i216_161 (hY.gr.k8) (by decide) (hY.gr.l8) (by omega) ((hY.gr.dd i (by omega) (by omega)).1) rfl <| ok_getfi (v := (s ((414 + (8 * i)) + 4))) (pc' := 165) i216_162 o216 gi13_204 ((hY.gr.dd i (by omega) (by omega)).2.2) ((Yd.d5 hY (k := i) (by omega) (by omega))) rfl <| ok_goto (pc' := 169) i216_165 rfl <| ok_iadd (v := ((itv (f219_13 s) 0 0 k) + (s ((414 + (8 * i)) + 4)))) (pc' := 170) i216_169 rfl rfl <| ok_istore (pc' := 172) (ls' := [aR O, aR 101, aI x2, aI ((itv (f19 s) 0 0 k) + 1), aI ((itv (f219_13 s) 0 0 k) + (s ((414 + (8 * i)) + 4))), aI 0, aI x6, aI x7, aI i, aU, aU, aU, aU, aU]) i216_170 (bt rfl) rfl rfl <| ?_
        refine ok_iinc (pc' := 175) (v := (i + 1)) (ls' := [aR O, aR 101, aI x2, aI ((itv (f19 s) 0 0 k) + 1), aI ((itv (f219_13 s) 0 0 k) + (s ((414 + (8 * i)) + 4))), aI 0, aI x6, aI x7, aI (i + 1), aU, aU, aU, aU, aU]) i216_172 rfl rfl rfl rfl <| ok_goto (pc' := 106) i216_175 rfl <| ?_
        have q1 : ((itv (f19 s) 0 0 k) + 1) = itv (f19 s) 0 0 (k + 1) := by rw [itv_1 hi]; unfold f19; split <;> omega
        have q2 : ((itv (f219_13 s) 0 0 k) + (s ((414 + (8 * i)) + 4))) = itv (f219_13 s) 0 0 (k + 1) := by rw [itv_1 hi]; unfold f219_13; split <;> omega
        exact ih (k + 1) _ _ _ (by omega) ⟨by omega, rfl, rfl, i + 1, by omega, by rw [q1, q2]⟩
theorem w216_192 {g : AG} {M : AM} {O : Nat} {A : YA} {s q : Int → Int} {b : Int} {d : Nat} {x2 x3 x4 x6 x7 : Int} {Q : AO → AG → AM → Prop} (hY : Yd g M O A s q) (hW : CW g M O b q s) (h542 : s 542 = 0) (K : ∀ w11 : AV, am_cat w11 = 1 → Ok (d + 12) 216 219 [aR O, aR 101, aI x2, aI x3, aI x4, aI (r21 s), aI x6, aI x7, aR 109, aI 201, aI 201, w11, aU, aU] [] g M Q) : Ok (d + 12) 216 192 [aR O, aR 101, aI x2, aI x3, aI x4, aI 0, aI x6, aI x7, aR 109, aI 201, aI 0, aU, aU, aU] [] g M Q := by
  have hV := hW.2.1.v
  have hQ := V_q hV
  have y3 := V_3 hV
  have y4 := V_4 hV
  have y5 := V_5 hV
  have yq0 := Q_0 hQ
  have yq1 := Q_1 hQ
  refine ok_lp (σ := Nat) (fun k ls g9 M9 => k ≤ 201 ∧ g9 = g ∧ M9 = M ∧ ∃ (i a : Int) (w11 : AV), i = (k : Int) ∧ (k = 0 → a = 0) ∧ (0 < k → a = itv (f21 s) 0 1 (k - 1)) ∧ am_cat w11 = 1 ∧ ls = [aR O, aR 101, aI x2, aI x3, aI x4, aI a, aI x6, aI x7, aR 109, aI 201, aI i, w11, aU, aU]) (fun k => 201 - k) ?_ 0 _ g M ⟨Nat.zero_le _, rfl, rfl, 0, 0, aU, rfl, fun _ => rfl, fun h => absurd h (by omega), rfl, rfl⟩
  rintro k ls g9 M9 ⟨hk, rfl, rfl, i, a, w11, hi, ha0, ha1, hw11, rfl⟩ ih
  have hi0 : 0 ≤ i ∧ i ≤ 201 := by omega
  refine ok_iload (pc' := 194) i216_192 rfl rfl <| ok_iload (pc' := 196) i216_194 rfl rfl <| ?_
  refine ok_cge (pc1 := 219) (pc2 := 199) i216_196 (by omega) rfl rfl (fun h1 => ?_) (fun h1 => ?_)
  · have hk9 : k - 1 = 200 := by omega
    have hi9 : i = 201 := by omega
    have q1 := ha1 (by omega)
    rw [hk9] at q1
    have q2 : a = r21 s := q1
    rw [q2, hi9]
    exact K w11 hw11
  · refine ok_aload (pc' := 201) i216_199 rfl rfl <| ok_iload (pc' := 203) i216_201 rfl rfl <| ?_
    have z2 : 0 ≤ s (542 + i) ∧ s (542 + i) ≤ 1000000 := V_s hV (by omega) (by omega)
    refine ok_iaload (v := (s (542 + i))) (pc' := 204) i216_203 (hY.gr.k9) (by decide) (hY.gr.l9) (by omega) ((Yd.st hY (i := i) (by omega) (by omega))) rfl <| ok_istore (pc' := 206) (ls' := [aR O, aR 101, aI x2, aI x3, aI x4, aI a, aI x6, aI x7, aR 109, aI 201, aI i, aI (s (542 + i)), aU, aU]) i216_204 (bt rfl) rfl rfl <| ok_iload (pc' := 208) i216_206 rfl rfl <| ok_iload (pc' := 210) i216_208 rfl rfl <| ok_iadd (v := (a + (s (542 + i)))) (pc' := 211) i216_210 rfl rfl <| ok_istore (pc' := 213) (ls' := [aR O, aR 101, aI x2, aI x3, aI x4, aI (a + (s (542 + i))), aI x6, aI x7, aR 109, aI 201, aI i, aI (s (542 + i)), aU, aU]) i216_211 (bt rfl) rfl rfl <| ok_iinc (pc' := 216) (v := (i + 1)) (ls' := [aR O, aR 101, aI x2, aI x3, aI x4, aI (a + (s (542 + i))), aI x6, aI x7, aR 109, aI 201, aI (i + 1), aI (s (542 + i)), aU, aU]) i216_213 rfl rfl rfl rfl <| ok_goto (pc' := 192) i216_216 rfl <| ?_
    have hq9 : a + s (542 + i) = itv (f21 s) 0 1 k := by
      by_cases hk0 : k = 0
      · rw [ha0 hk0, hk0, show i = 0 by omega]
        show 0 + s (542 + 0) = 0
        rw [show (542 + 0 : Int) = 542 by omega, h542]; rfl
      · rw [ha1 (by omega)]
        obtain ⟨m, rfl⟩ : ∃ m : Nat, k = m + 1 := ⟨k - 1, by omega⟩
        show itv (f21 s) 0 1 m + s (542 + i) = f21 s (1 + (m : Int)) (itv (f21 s) 0 1 m)
        rw [show i = 1 + (m : Int) by omega]; rfl
    exact ih (k + 1) _ _ _ (by omega) ⟨by omega, rfl, rfl, i + 1, _, _, by omega, fun h => absurd h (by omega), fun _ => hq9, (show am_cat (aI (s (542 + i))) = 1 from rfl), rfl⟩
theorem w216_219 {g : AG} {M : AM} {O : Nat} {A : YA} {s q : Int → Int} {b : Int} {d : Nat} {Q : AO → AG → AM → Prop} {w11 : AV} (hY : Yd g M O A s q) (hW : CW g M O b q s) (hw11 : am_cat w11 = 1) (K : ∀ (g1 : AG) (M1 : AM), Yd g1 M1 O A s q → CW g1 M1 O b q s → Fr FN 1 1 g M g1 M1 → (-1 ≤ (r218 s 0) ∧ ((r218 s 0) = -1 ∨ (0 ≤ (r218 s 0) ∧ (r218 s 0) < s 4)) ∧ ((r218 s 0) < s 4 ∨ (r218 s 0) = -1)) → (-1 ≤ (r34 s 1 2) ∧ ((r34 s 1 2) = -1 ∨ (0 ≤ (r34 s 1 2) ∧ (r34 s 1 2) < s 3)) ∧ ((r34 s 1 2) < s 3 ∨ (r34 s 1 2) = -1)) → Ok (d + 12) 216 308 [aR O, aR 101, aI (r18 s), aI (r19 s), aI (itv (f219_13 s) 0 0 ((s 4).toNat)), aI (r21 s), aI (itv (f215_13 s) 0 0 ((s 3).toNat)), aI (itv (f216_13 s q) 0 0 ((s 3).toNat)), aR (nulR A.D (r218 s 0)), aR (nulR A.R (r34 s 1 2)), aI 201, w11, aU, aU] [] g1 M1 Q) : Ok (d + 12) 216 219 [aR O, aR 101, aI (r18 s), aI (r19 s), aI (itv (f219_13 s) 0 0 ((s 4).toNat)), aI (r21 s), aI (itv (f215_13 s) 0 0 ((s 3).toNat)), aI (itv (f216_13 s q) 0 0 ((s 3).toNat)), aR 109, aI 201, aI 201, w11, aU, aU] [] g M Q := by
  have hV := hW.2.1.v
  have hQ := V_q hV
  have y3 := V_3 hV
  have y4 := V_4 hV
  have y5 := V_5 hV
  have yq0 := Q_0 hQ
  have yq1 := Q_1 hQ
  refine ok_aloadn (pc' := 220) i216_219 rfl rfl <| ok_iconst (pc' := 221) i216_220 rfl <| ?_
  refine ok_cc i216_221 rfl (cl_v o216 m13_269 na205 rfl rfl (bt rfl) (bt rfl) rfl (by rw [hY.gr.ky, o205])) ln205 (pd205 (aR 101) (aI 0)) <| (Ok.deep (t205 (x1 := 0) hY hV ⟨by omega, by omega⟩) (by omega)).mono (fun o9 g5c M5c p5c => ?_)
  obtain ⟨rfl, e5g, e5m⟩ := p5c
  rw [e5g, e5m]
  have hfo := (fo_218 (s := s) (x := 0) (by omega)).rg (by omega)
  refine kt_v (pc' := 224) rfl <| ok_astore (pc' := 226) (ls' := [aR O, aR 101, aI (r18 s), aI (r19 s), aI (itv (f219_13 s) 0 0 ((s 4).toNat)), aI (r21 s), aI (itv (f215_13 s) 0 0 ((s 3).toNat)), aI (itv (f216_13 s q) 0 0 ((s 3).toNat)), aR (nulR A.D (r218 s 0)), aI 201, aI 201, w11, aU, aU]) i216_224 (bt rfl) rfl rfl <| ok_aloadn (pc' := 227) i216_226 rfl rfl <| ok_iconst (pc' := 228) i216_227 rfl <| ?_
  refine ok_nia (pc' := 230) i216_228 (by decide) rfl (fun xr1 g1 M1 hx1 hn1 hA1 e1 => ?_)
  have hYa1 := Yd.f0 hY e1
  have hl1 : xr1 < 100 + gN g1 := by omega
  have hWn2 := CW.f0 hW e1
  refine ok_dup (pc' := 231) i216_230 rfl rfl <| ok_iconst (pc' := 232) i216_231 rfl <| ok_iconst (pc' := 233) i216_232 rfl <| ?_
  have b3 := hA1.2.1
  refine ok_iastore (pc' := 234) i216_233 (hA1.1) (rfl) (by omega) rfl <| ?_
  have e4 := Fr.up (x := 0) (v := 1) e1 (Or.inr (Nat.le_of_eq hx1))
  have hYa4 := Yd.f0 hY e4
  have hA4 := IA.up (x := 0) (v := 1) hA1
  have hWn5 := CW.f0 hW e4
  refine ok_iconst (pc' := 235) i216_234 rfl <| ?_
  have hRV : RowV 1 (upI (fun _ => 0) 0 1) := RowV1 ⟨by omega, by omega⟩
  refine ok_cc i216_235 rfl (cl_v o216 m13_273 na199 rfl rfl (bt rfl) (bt rfl) rfl (by rw [hYa4.gr.ky, o199])) ln199 (pd199 (aR 101) (aR xr1) (aI 2)) <| (Ok.deep (t199 (x2 := 2) hYa4 hV hA4 hRV ⟨by omega, by omega⟩) (by omega)).mono (fun o9 g6c M6c p6c => ?_)
  obtain ⟨e6g, e6m, a6, hF6, rfl⟩ := p6c
  have hG6 := rf_34 (p := 2) hV (f := (upI (fun _ => 0) 0 1)) (x := 1) upI_eq (by omega) ⟨by omega, by omega⟩
  rw [e6g, e6m, Fst.uniq (by omega) hF6 hG6]
  have hH6 := hG6.rg (by omega)
  refine kt_v (pc' := 238) rfl <| ok_astore (pc' := 240) (ls' := [aR O, aR 101, aI (r18 s), aI (r19 s), aI (itv (f219_13 s) 0 0 ((s 4).toNat)), aI (r21 s), aI (itv (f215_13 s) 0 0 ((s 3).toNat)), aI (itv (f216_13 s q) 0 0 ((s 3).toNat)), aR (nulR A.D (r218 s 0)), aR (nulR A.R (r34 s 1 2)), aI 201, w11, aU, aU]) i216_238 (bt rfl) rfl rfl <| ok_aloadn (pc' := 241) i216_240 rfl rfl <| ok_iconst (pc' := 242) i216_241 rfl <| ?_
  refine ok_cc i216_242 rfl (cl_v o216 m13_33 na98 rfl rfl (bt rfl) (bt rfl) rfl (by rw [(ShYard_k0 hWn5.1.y), o98])) ln98 (pd98 (aR O) (aI 0)) <| (Ok.deep (y98_0 (Y := O) (P := O + 38) (A := O + 49) (V := O + 73) (T := O + 74) (K := O + 100) (H := O + 102) (X := O + 346) hWn5.1.y hWn5.1.w hWn5.1.p hWn5.1.s hWn5.2.1.p hWn5.2.1.s hQ hV hWn5.2.1.l) (by omega)).mono (fun o9 g1q M1q p1q => ?_)
  obtain ⟨rfl, eg1q, em1q⟩ := p1q
  rw [eg1q, em1q]
  refine kt_v (pc' := 245) rfl <| ok_aloadn (pc' := 246) i216_245 rfl rfl <| ok_getfi (v := (q 0)) (pc' := 249) i216_246 o216 gi13_231 (hYa4.gr.ky) (hYa4.mr.q0) rfl <| ok_cnes (pc1 := 306) (pc2 := 252) i216_249 rfl rfl <| ok_aloadn (pc' := 253) i216_252 rfl rfl <| ok_iconst (pc' := 254) i216_253 rfl <| ?_
  refine ok_cc i216_254 rfl (cl_v o216 m13_33 na98 rfl rfl (bt rfl) (bt rfl) rfl (by rw [(ShYard_k0 hWn5.1.y), o98])) ln98 (pd98 (aR O) (aI 3)) <| (Ok.deep (y98_3 (Y := O) (P := O + 38) (A := O + 49) (V := O + 73) (T := O + 74) (K := O + 100) (H := O + 102) (X := O + 346) hWn5.1.y hWn5.1.w hWn5.1.p hWn5.1.s hWn5.2.1.p hWn5.2.1.s hQ hV hWn5.2.1.l) (by omega)).mono (fun o9 g2q M2q p2q => ?_)
  obtain ⟨rfl, eg2q, em2q⟩ := p2q
  rw [eg2q, em2q]
  refine kt_v (pc' := 257) rfl <| ok_aloadn (pc' := 258) i216_257 rfl rfl <| ok_getfi (v := (q 1)) (pc' := 261) i216_258 o216 gi13_257 (hYa4.gr.ky) (hYa4.mr.q1) rfl <| ok_cnes (pc1 := 306) (pc2 := 264) i216_261 rfl rfl <| ok_aloadn (pc' := 265) i216_264 rfl rfl <| ok_iconst (pc' := 266) i216_265 rfl <| ?_
  refine ok_cc i216_266 rfl (cl_v o216 m13_33 na98 rfl rfl (bt rfl) (bt rfl) rfl (by rw [(ShYard_k0 hWn5.1.y), o98])) ln98 (pd98 (aR O) (aI 4)) <| (Ok.deep (y98_4 (Y := O) (P := O + 38) (A := O + 49) (V := O + 73) (T := O + 74) (K := O + 100) (H := O + 102) (X := O + 346) hWn5.1.y hWn5.1.w hWn5.1.p hWn5.1.s hWn5.2.1.p hWn5.2.1.s hQ hV hWn5.2.1.l) (by omega)).mono (fun o9 g3q M3q p3q => ?_)
  obtain ⟨rfl, eg3q, em3q⟩ := p3q
  rw [eg3q, em3q]
  refine kt_v (pc' := 269) rfl <| ok_iloadn (pc' := 270) i216_269 rfl rfl <| ok_cnes (pc1 := 306) (pc2 := 273) i216_270 rfl rfl <| ok_aloadn (pc' := 274) i216_273 rfl rfl <| ok_iconst (pc' := 275) i216_274 rfl <| ?_
  refine ok_cc i216_275 rfl (cl_v o216 m13_33 na98 rfl rfl (bt rfl) (bt rfl) rfl (by rw [(ShYard_k0 hWn5.1.y), o98])) ln98 (pd98 (aR O) (aI 5)) <| (Ok.deep (y98_5 (Y := O) (P := O + 38) (A := O + 49) (V := O + 73) (T := O + 74) (K := O + 100) (H := O + 102) (X := O + 346) hWn5.1.y hWn5.1.w hWn5.1.p hWn5.1.s hWn5.2.1.p hWn5.2.1.s hQ hV hWn5.2.1.l) (by omega)).mono (fun o9 g4q M4q p4q => ?_)
  obtain ⟨rfl, eg4q, em4q⟩ := p4q
  rw [eg4q, em4q]
  refine kt_v (pc' := 278) rfl <| ok_iloadn (pc' := 279) i216_278 rfl rfl <| ok_cnes (pc1 := 306) (pc2 := 282) i216_279 rfl rfl <| ok_aloadn (pc' := 283) i216_282 rfl rfl <| ok_bipush (v := 6) (pc' := 285) i216_283 rfl rfl <| ?_
  refine ok_cc i216_285 rfl (cl_v o216 m13_33 na98 rfl rfl (bt rfl) (bt rfl) rfl (by rw [(ShYard_k0 hWn5.1.y), o98])) ln98 (pd98 (aR O) (aI 6)) <| (Ok.deep (y98_6 (Y := O) (P := O + 38) (A := O + 49) (V := O + 73) (T := O + 74) (K := O + 100) (H := O + 102) (X := O + 346) hWn5.1.y hWn5.1.w hWn5.1.p hWn5.1.s hWn5.2.1.p hWn5.2.1.s hQ hV hWn5.2.1.l) (by omega)).mono (fun o9 g5q M5q p5q => ?_)
  obtain ⟨rfl, eg5q, em5q⟩ := p5q
  rw [eg5q, em5q]
  refine kt_v (pc' := 288) rfl <| ok_aloadn (pc' := 289) i216_288 rfl rfl <| ?_
  refine ok_cc i216_289 rfl (cl_v o216 m13_276 na208 rfl rfl (bt rfl) (bt rfl) rfl (by rw [hYa4.gr.ky, o208])) ln208 (pd208 (aR 101)) <| (Ok.deep (t208 hYa4 hV) (by omega)).mono (fun o9 g7c M7c p7c => ?_)
  obtain ⟨rfl, e7g, e7m⟩ := p7c
  rw [e7g, e7m]
  refine kt_v (pc' := 292) rfl <| ok_cnes (pc1 := 306) (pc2 := 295) i216_292 rfl rfl <| ok_aloadn (pc' := 296) i216_295 rfl rfl <| ok_bipush (v := 7) (pc' := 298) i216_296 rfl rfl <| ?_
  refine ok_cc i216_298 rfl (cl_v o216 m13_33 na98 rfl rfl (bt rfl) (bt rfl) rfl (by rw [(ShYard_k0 hWn5.1.y), o98])) ln98 (pd98 (aR O) (aI 7)) <| (Ok.deep (y98_7 (Y := O) (P := O + 38) (A := O + 49) (V := O + 73) (T := O + 74) (K := O + 100) (H := O + 102) (X := O + 346) hWn5.1.y hWn5.1.w hWn5.1.p hWn5.1.s hWn5.2.1.p hWn5.2.1.s hQ hV hWn5.2.1.l) (by omega)).mono (fun o9 g6q M6q p6q => ?_)
  obtain ⟨rfl, eg6q, em6q⟩ := p6q
  rw [eg6q, em6q]
  refine kt_v (pc' := 301) rfl <| ok_iload (pc' := 303) i216_301 rfl rfl <| ok_ceqs (pc1 := 308) (pc2 := 306) i216_303 rfl rfl <| ?_
  exact K _ _ hYa4 hWn5 e4 hfo hH6
theorem w216_308_0 {g : AG} {M : AM} {O : Nat} {A : YA} {s q : Int → Int} {b : Int} {d : Nat} {Q : AO → AG → AM → Prop} {w11 : AV} (hY : Yd g M O A s q) (hW : CW g M O b q s) (hw11 : am_cat w11 = 1) (hw : wr (s 11) = 0) (hw2 : wr (((s 13) + (s 7)) + (s 8)) = 0) (hfo : (-1 ≤ (r218 s 0) ∧ ((r218 s 0) = -1 ∨ (0 ≤ (r218 s 0) ∧ (r218 s 0) < s 4)) ∧ ((r218 s 0) < s 4 ∨ (r218 s 0) = -1))) (hH6 : (-1 ≤ (r34 s 1 2) ∧ ((r34 s 1 2) = -1 ∨ (0 ≤ (r34 s 1 2) ∧ (r34 s 1 2) < s 3)) ∧ ((r34 s 1 2) < s 3 ∨ (r34 s 1 2) = -1))) (hret : Q (.inl (some (aI 1))) g M) : Ok (d + 12) 216 308 [aR O, aR 101, aI (r18 s), aI (r19 s), aI (itv (f219_13 s) 0 0 ((s 4).toNat)), aI (r21 s), aI (itv (f215_13 s) 0 0 ((s 3).toNat)), aI (itv (f216_13 s q) 0 0 ((s 3).toNat)), aR (nulR A.D (r218 s 0)), aR (nulR A.R (r34 s 1 2)), aI 201, w11, aU, aU] [] g M Q := by
  have hV := hW.2.1.v
  have hQ := V_q hV
  have y3 := V_3 hV
  have y4 := V_4 hV
  have y5 := V_5 hV
  have yq0 := Q_0 hQ
  have yq1 := Q_1 hQ
  refine ok_aloadn (pc' := 309) i216_308 rfl rfl <| ok_getfr (r := 110) (pc' := 312) i216_309 o216 gr13_164 (hY.gr.ky) (hY.gr.r7) rfl <| ok_iconst (pc' := 313) i216_312 rfl <| ok_iaload (v := (s 11)) (pc' := 314) i216_313 (hY.gr.ka) (by decide) (hY.gr.la) (by decide) ((Yd.acz hY (i := 5) (z := 11) (by omega) (by omega) (by omega))) rfl <| ?_
  refine ok_znew (pc1 := 321) (pc2 := 317) i216_314 rfl rfl (fun h9 => by first | exact absurd hw h9 | exact absurd h9 hw) (fun _ => ?_)
  refine ok_dconst0 (pc' := 318) i216_317 rfl <| ok_goto (pc' := 336) i216_318 rfl <| ok_dstore (pc' := 338) (ls' := [aR O, aR 101, aI (r18 s), aI (r19 s), aI (itv (f219_13 s) 0 0 ((s 4).toNat)), aI (r21 s), aI (itv (f215_13 s) 0 0 ((s 3).toNat)), aI (itv (f216_13 s q) 0 0 ((s 3).toNat)), aR (nulR A.D (r218 s 0)), aR (nulR A.R (r34 s 1 2)), aD 0, aU, aU, aU]) i216_336 (bt rfl) rfl rfl <| ok_aloadn (pc' := 339) i216_338 rfl rfl <| ok_getfr (r := 110) (pc' := 342) i216_339 o216 gr13_164 (hY.gr.ky) (hY.gr.r7) rfl <| ok_bipush (v := 7) (pc' := 344) i216_342 rfl rfl <| ok_iaload (v := (s 13)) (pc' := 345) i216_344 (hY.gr.ka) (by decide) (hY.gr.la) (by decide) ((Yd.acz hY (i := 7) (z := 13) (by omega) (by omega) (by omega))) rfl <| ok_aloadn (pc' := 346) i216_345 rfl rfl <| ?_
  refine ok_getfr (r := 110) (pc' := 349) i216_346 o216 gr13_164 (hY.gr.ky) (hY.gr.r7) rfl <| ok_iconst (pc' := 350) i216_349 rfl <| ok_iaload (v := (s 7)) (pc' := 351) i216_350 (hY.gr.ka) (by decide) (hY.gr.la) (by decide) ((Yd.acz hY (i := 1) (z := 7) (by omega) (by omega) (by omega))) rfl <| ok_iadd (v := ((s 13) + (s 7))) (pc' := 352) i216_351 rfl rfl <| ok_aloadn (pc' := 353) i216_352 rfl rfl <| ok_getfr (r := 110) (pc' := 356) i216_353 o216 gr13_164 (hY.gr.ky) (hY.gr.r7) rfl <| ok_iconst (pc' := 357) i216_356 rfl <| ok_iaload (v := (s 8)) (pc' := 358) i216_357 (hY.gr.ka) (by decide) (hY.gr.la) (by decide) ((Yd.acz hY (i := 2) (z := 8) (by omega) (by omega) (by omega))) rfl <| ?_
  refine ok_iadd (v := (((s 13) + (s 7)) + (s 8))) (pc' := 359) i216_358 rfl rfl <| ok_istore (pc' := 361) (ls' := [aR O, aR 101, aI (r18 s), aI (r19 s), aI (itv (f219_13 s) 0 0 ((s 4).toNat)), aI (r21 s), aI (itv (f215_13 s) 0 0 ((s 3).toNat)), aI (itv (f216_13 s q) 0 0 ((s 3).toNat)), aR (nulR A.D (r218 s 0)), aR (nulR A.R (r34 s 1 2)), aD 0, aU, aI (((s 13) + (s 7)) + (s 8)), aU]) i216_359 (bt rfl) rfl rfl <| ok_iload (pc' := 363) i216_361 rfl rfl <| ?_
  refine ok_znew (pc1 := 370) (pc2 := 366) i216_363 rfl rfl (fun h9 => by first | exact absurd hw2 h9 | exact absurd h9 hw2) (fun _ => ?_)
  refine ok_fconst0 (pc' := 367) i216_366 rfl <| ok_goto (pc' := 382) i216_367 rfl <| ok_fstore (pc' := 384) (ls' := [aR O, aR 101, aI (r18 s), aI (r19 s), aI (itv (f219_13 s) 0 0 ((s 4).toNat)), aI (r21 s), aI (itv (f215_13 s) 0 0 ((s 3).toNat)), aI (itv (f216_13 s q) 0 0 ((s 3).toNat)), aR (nulR A.D (r218 s 0)), aR (nulR A.R (r34 s 1 2)), aD 0, aU, aI (((s 13) + (s 7)) + (s 8)), aF 0]) i216_382 (bt rfl) rfl rfl <| ok_aloadn (pc' := 385) i216_384 rfl rfl <| ?_
  refine ok_cc i216_385 rfl (cl_v o216 m13_279 na118 rfl rfl (bt rfl) (bt rfl) rfl (by rw [(ShYard_k0 hW.1.y), o118])) ln118 (pd118 (aR O)) <| (Ok.deep (y118 (Y := O) (P := O + 38) (A := O + 49) (V := O + 73) (T := O + 74) (K := O + 100) (H := O + 102) (X := O + 346) hW.1.y hW.1.w hW.1.p hW.1.s hW.2.1.p hW.2.1.s hQ hV hW.2.1.l) (by omega)).mono (fun o9 g7q M7q p7q => ?_)
  obtain ⟨rfl, eg7q, em7q⟩ := p7q
  rw [eg7q, em7q]
  refine kt_v (pc' := 388) rfl <| ok_iload (pc' := 390) i216_388 rfl rfl <| ok_cnes (pc1 := 477) (pc2 := 393) i216_390 rfl rfl <| ok_aloadn (pc' := 394) i216_393 rfl rfl <| ?_
  refine ok_cc i216_394 rfl (cl_v o216 m13_282 na119 rfl rfl (bt rfl) (bt rfl) rfl (by rw [(ShYard_k0 hW.1.y), o119])) ln119 (pd119 (aR O)) <| (Ok.deep (y119 (Y := O) (P := O + 38) (A := O + 49) (V := O + 73) (T := O + 74) (K := O + 100) (H := O + 102) (X := O + 346) hW.1.y hW.1.w hW.1.p hW.1.s hW.2.1.p hW.2.1.s hQ hV hW.2.1.l) (by omega)).mono (fun o9 g8q M8q p8q => ?_)
  obtain ⟨rfl, eg8q, em8q⟩ := p8q
  rw [eg8q, em8q]
  refine kt_v (pc' := 397) rfl <| ok_iload (pc' := 399) i216_397 rfl rfl <| ok_cnes (pc1 := 477) (pc2 := 402) i216_399 rfl rfl <| ok_aloadn (pc' := 403) i216_402 rfl rfl <| ?_
  refine ok_cc i216_403 rfl (cl_v o216 m13_285 na121 rfl rfl (bt rfl) (bt rfl) rfl (by rw [(ShYard_k0 hW.1.y), o121])) ln121 (pd121 (aR O)) <| (Ok.deep (y121 (Y := O) (P := O + 38) (A := O + 49) (V := O + 73) (T := O + 74) (K := O + 100) (H := O + 102) (X := O + 346) hW.1.y hW.1.w hW.1.p hW.1.s hW.2.1.p hW.2.1.s hQ hV hW.2.1.l) (by omega)).mono (fun o9 g9q M9q p9q => ?_)
  obtain ⟨rfl, eg9q, em9q⟩ := p9q
  rw [eg9q, em9q]
  refine kt_v (pc' := 406) rfl <| ok_iload (pc' := 408) i216_406 rfl rfl <| ok_cnes (pc1 := 477) (pc2 := 411) i216_408 rfl rfl <| ok_aloadn (pc' := 412) i216_411 rfl rfl <| ?_
  refine ok_cc i216_412 rfl (cl_v o216 m13_288 na120 rfl rfl (bt rfl) (bt rfl) rfl (by rw [(ShYard_k0 hW.1.y), o120])) ln120 (pd120 (aR O)) <| (Ok.deep (y120 (Y := O) (P := O + 38) (A := O + 49) (V := O + 73) (T := O + 74) (K := O + 100) (H := O + 102) (X := O + 346) hW.1.y hW.1.w hW.1.p hW.1.s hW.2.1.p hW.2.1.s hQ hV hW.2.1.l) (by omega)).mono (fun o9 g10q M10q p10q => ?_)
  obtain ⟨rfl, eg10q, em10q⟩ := p10q
  rw [eg10q, em10q]
  rw [← r24_218 hV]
  refine kt_v (pc' := 415) rfl <| ok_aload (pc' := 417) i216_415 rfl rfl <| ?_
  by_cases u1 : (r218 s 0) = -1
  · rw [show nulR A.D (r218 s 0) = 0 by rw [u1, nulR_0]]
    refine ok_ifnn1 (pc1 := 420) i216_417 (by decide) rfl <| ok_iconst (pc' := 421) i216_420 rfl <| ok_goto (pc' := 429) i216_421 rfl <| ?_
    refine ok_cne (pc1 := 477) (pc2 := 432) i216_429 (by omega) rfl rfl (fun h9 => by exfalso; omega) (fun h2 => ?_)
    refine ok_aloadn (pc' := 433) i216_432 rfl rfl <| ?_
    refine ok_cc i216_433 rfl (cl_v o216 m13_291 na117 rfl rfl (bt rfl) (bt rfl) rfl (by rw [(ShYard_k0 hW.1.y), o117])) ln117 (pd117 (aR O)) <| (Ok.deep (y117 (Y := O) (P := O + 38) (A := O + 49) (V := O + 73) (T := O + 74) (K := O + 100) (H := O + 102) (X := O + 346) hW.1.y hW.1.w hW.1.p hW.1.s hW.2.1.p hW.2.1.s hQ hV hW.2.1.l) (by omega)).mono (fun o9 g11q M11q p11q => ?_)
    obtain ⟨rfl, eg11q, em11q⟩ := p11q
    rw [eg11q, em11q]
    rw [← r23_34]
    refine kt_v (pc' := 436) rfl <| ok_aload (pc' := 438) i216_436 rfl rfl <| ?_
    by_cases u3 : (r34 s 1 2) = -1
    · rw [show nulR A.R (r34 s 1 2) = 0 by rw [u3, nulR_0]]
      refine ok_ifnn1 (pc1 := 441) i216_438 (by decide) rfl <| ok_iconst (pc' := 442) i216_441 rfl <| ok_goto (pc' := 450) i216_442 rfl <| ?_
      refine ok_cne (pc1 := 477) (pc2 := 453) i216_450 (by omega) rfl rfl (fun h9 => by exfalso; omega) (fun h4 => ?_)
      refine ok_aloadn (pc' := 454) i216_453 rfl rfl <| ?_
      refine ok_cc i216_454 rfl (cl_v o216 m13_294 na136 rfl rfl (bt rfl) (bt rfl) rfl (by rw [(ShYard_k0 hW.1.y), o136])) ln136 (pd136 (aR O)) <| (Ok.deep (y136_0 hW.1 hW.2.1 hw) (by omega)).mono (fun o9 g12q M12q p12q => ?_)
      obtain ⟨rfl, eg12q, em12q⟩ := p12q
      rw [eg12q, em12q]
      refine kt_v (pc' := 457) rfl <| ok_dload (pc' := 459) i216_457 rfl rfl <| ok_dcmp0 (pc' := 460) i216_459 nn0 rfl <| ok_kz0 (pc1 := 477) (pc2 := 463) i216_460 (by decide) rfl rfl <| ok_aloadn (pc' := 464) i216_463 rfl rfl <| ?_
      refine ok_cc i216_464 rfl (cl_v o216 m13_298 na137 rfl rfl (bt rfl) (bt rfl) rfl (by rw [(ShYard_k0 hW.1.y), o137])) ln137 (pd137 (aR O)) <| (Ok.deep (y137_0 hW.1 hW.2.1 hw2) (by omega)).mono (fun o9 g13q M13q p13q => ?_)
      obtain ⟨rfl, eg13q, em13q⟩ := p13q
      rw [eg13q, em13q]
      refine kt_v (pc' := 467) rfl <| ok_fload (pc' := 469) i216_467 rfl rfl <| ok_fcmp0 (pc' := 470) i216_469 nf0 rfl <| ok_kz0 (pc1 := 477) (pc2 := 473) i216_470 (by decide) rfl rfl <| ok_iconst (pc' := 474) i216_473 rfl <| ok_goto (pc' := 478) i216_474 rfl <| ok_iretz i216_478 rt216 (by decide) <| ?_
      exact hret
    · rw [show nulR A.R (r34 s 1 2) = A.R (r34 s 1 2) from nulR_1 u3]
      have z5 : 0 ≤ (r34 s 1 2) ∧ (r34 s 1 2) < s 3 := by omega
      refine ok_ifnn0 (pc1 := 445) i216_438 (Or.inl (Nat.le_trans (by decide) (hY.gr.rr (r34 s 1 2) (by omega) (by omega)).2.1.1)) rfl <| ok_aload (pc' := 447) i216_445 rfl rfl <| ok_getfi (v := (r34 s 1 2)) (pc' := 450) i216_447 o216 gi13_253 ((hY.gr.rr (r34 s 1 2) (by omega) (by omega)).2.2) ((hY.mr.rn (r34 s 1 2) (by omega) (by omega))) rfl <| ok_cnes (pc1 := 477) (pc2 := 453) i216_450 rfl rfl <| ok_aloadn (pc' := 454) i216_453 rfl rfl <| ?_
      refine ok_cc i216_454 rfl (cl_v o216 m13_294 na136 rfl rfl (bt rfl) (bt rfl) rfl (by rw [(ShYard_k0 hW.1.y), o136])) ln136 (pd136 (aR O)) <| (Ok.deep (y136_0 hW.1 hW.2.1 hw) (by omega)).mono (fun o9 g14q M14q p14q => ?_)
      obtain ⟨rfl, eg14q, em14q⟩ := p14q
      rw [eg14q, em14q]
      refine kt_v (pc' := 457) rfl <| ok_dload (pc' := 459) i216_457 rfl rfl <| ok_dcmp0 (pc' := 460) i216_459 nn0 rfl <| ok_kz0 (pc1 := 477) (pc2 := 463) i216_460 (by decide) rfl rfl <| ok_aloadn (pc' := 464) i216_463 rfl rfl <| ?_
      refine ok_cc i216_464 rfl (cl_v o216 m13_298 na137 rfl rfl (bt rfl) (bt rfl) rfl (by rw [(ShYard_k0 hW.1.y), o137])) ln137 (pd137 (aR O)) <| (Ok.deep (y137_0 hW.1 hW.2.1 hw2) (by omega)).mono (fun o9 g15q M15q p15q => ?_)
      obtain ⟨rfl, eg15q, em15q⟩ := p15q
      rw [eg15q, em15q]
      refine kt_v (pc' := 467) rfl <| ok_fload (pc' := 469) i216_467 rfl rfl <| ok_fcmp0 (pc' := 470) i216_469 nf0 rfl <| ok_kz0 (pc1 := 477) (pc2 := 473) i216_470 (by decide) rfl rfl <| ok_iconst (pc' := 474) i216_473 rfl <| ok_goto (pc' := 478) i216_474 rfl <| ok_iretz i216_478 rt216 (by decide) <| ?_
      exact hret
  · rw [show nulR A.D (r218 s 0) = A.D (r218 s 0) from nulR_1 u1]
    have z6 : 0 ≤ (r218 s 0) ∧ (r218 s 0) < s 4 := by omega
    refine ok_ifnn0 (pc1 := 424) i216_417 (Or.inl (Nat.le_trans (by decide) (hY.gr.dd (r218 s 0) (by omega) (by omega)).2.1.1)) rfl <| ok_aload (pc' := 426) i216_424 rfl rfl <| ok_getfi (v := (r218 s 0)) (pc' := 429) i216_426 o216 gi13_247 ((hY.gr.dd (r218 s 0) (by omega) (by omega)).2.2) ((hY.mr.dn (r218 s 0) (by omega) (by omega))) rfl <| ok_cnes (pc1 := 477) (pc2 := 432) i216_429 rfl rfl <| ok_aloadn (pc' := 433) i216_432 rfl rfl <| ?_
    refine ok_cc i216_433 rfl (cl_v o216 m13_291 na117 rfl rfl (bt rfl) (bt rfl) rfl (by rw [(ShYard_k0 hW.1.y), o117])) ln117 (pd117 (aR O)) <| (Ok.deep (y117 (Y := O) (P := O + 38) (A := O + 49) (V := O + 73) (T := O + 74) (K := O + 100) (H := O + 102) (X := O + 346) hW.1.y hW.1.w hW.1.p hW.1.s hW.2.1.p hW.2.1.s hQ hV hW.2.1.l) (by omega)).mono (fun o9 g16q M16q p16q => ?_)
    obtain ⟨rfl, eg16q, em16q⟩ := p16q
    rw [eg16q, em16q]
    rw [← r23_34]
    refine kt_v (pc' := 436) rfl <| ok_aload (pc' := 438) i216_436 rfl rfl <| ?_
    by_cases u7 : (r34 s 1 2) = -1
    · rw [show nulR A.R (r34 s 1 2) = 0 by rw [u7, nulR_0]]
      refine ok_ifnn1 (pc1 := 441) i216_438 (by decide) rfl <| ok_iconst (pc' := 442) i216_441 rfl <| ok_goto (pc' := 450) i216_442 rfl <| ?_
      refine ok_cne (pc1 := 477) (pc2 := 453) i216_450 (by omega) rfl rfl (fun h9 => by exfalso; omega) (fun h8 => ?_)
      refine ok_aloadn (pc' := 454) i216_453 rfl rfl <| ?_
      refine ok_cc i216_454 rfl (cl_v o216 m13_294 na136 rfl rfl (bt rfl) (bt rfl) rfl (by rw [(ShYard_k0 hW.1.y), o136])) ln136 (pd136 (aR O)) <| (Ok.deep (y136_0 hW.1 hW.2.1 hw) (by omega)).mono (fun o9 g17q M17q p17q => ?_)
      obtain ⟨rfl, eg17q, em17q⟩ := p17q
      rw [eg17q, em17q]
      refine kt_v (pc' := 457) rfl <| ok_dload (pc' := 459) i216_457 rfl rfl <| ok_dcmp0 (pc' := 460) i216_459 nn0 rfl <| ok_kz0 (pc1 := 477) (pc2 := 463) i216_460 (by decide) rfl rfl <| ok_aloadn (pc' := 464) i216_463 rfl rfl <| ?_
      refine ok_cc i216_464 rfl (cl_v o216 m13_298 na137 rfl rfl (bt rfl) (bt rfl) rfl (by rw [(ShYard_k0 hW.1.y), o137])) ln137 (pd137 (aR O)) <| (Ok.deep (y137_0 hW.1 hW.2.1 hw2) (by omega)).mono (fun o9 g18q M18q p18q => ?_)
      obtain ⟨rfl, eg18q, em18q⟩ := p18q
      rw [eg18q, em18q]
      refine kt_v (pc' := 467) rfl <| ok_fload (pc' := 469) i216_467 rfl rfl <| ok_fcmp0 (pc' := 470) i216_469 nf0 rfl <| ok_kz0 (pc1 := 477) (pc2 := 473) i216_470 (by decide) rfl rfl <| ok_iconst (pc' := 474) i216_473 rfl <| ok_goto (pc' := 478) i216_474 rfl <| ok_iretz i216_478 rt216 (by decide) <| ?_
      exact hret
    · rw [show nulR A.R (r34 s 1 2) = A.R (r34 s 1 2) from nulR_1 u7]
      have z9 : 0 ≤ (r34 s 1 2) ∧ (r34 s 1 2) < s 3 := by omega
      refine ok_ifnn0 (pc1 := 445) i216_438 (Or.inl (Nat.le_trans (by decide) (hY.gr.rr (r34 s 1 2) (by omega) (by omega)).2.1.1)) rfl <| ok_aload (pc' := 447) i216_445 rfl rfl <| ok_getfi (v := (r34 s 1 2)) (pc' := 450) i216_447 o216 gi13_253 ((hY.gr.rr (r34 s 1 2) (by omega) (by omega)).2.2) ((hY.mr.rn (r34 s 1 2) (by omega) (by omega))) rfl <| ok_cnes (pc1 := 477) (pc2 := 453) i216_450 rfl rfl <| ok_aloadn (pc' := 454) i216_453 rfl rfl <| ?_
      refine ok_cc i216_454 rfl (cl_v o216 m13_294 na136 rfl rfl (bt rfl) (bt rfl) rfl (by rw [(ShYard_k0 hW.1.y), o136])) ln136 (pd136 (aR O)) <| (Ok.deep (y136_0 hW.1 hW.2.1 hw) (by omega)).mono (fun o9 g19q M19q p19q => ?_)
      obtain ⟨rfl, eg19q, em19q⟩ := p19q
      rw [eg19q, em19q]
      refine kt_v (pc' := 457) rfl <| ok_dload (pc' := 459) i216_457 rfl rfl <| ok_dcmp0 (pc' := 460) i216_459 nn0 rfl <| ok_kz0 (pc1 := 477) (pc2 := 463) i216_460 (by decide) rfl rfl <| ok_aloadn (pc' := 464) i216_463 rfl rfl <| ?_
      refine ok_cc i216_464 rfl (cl_v o216 m13_298 na137 rfl rfl (bt rfl) (bt rfl) rfl (by rw [(ShYard_k0 hW.1.y), o137])) ln137 (pd137 (aR O)) <| (Ok.deep (y137_0 hW.1 hW.2.1 hw2) (by omega)).mono (fun o9 g20q M20q p20q => ?_)
      obtain ⟨rfl, eg20q, em20q⟩ := p20q
      rw [eg20q, em20q]
      refine kt_v (pc' := 467) rfl <| ok_fload (pc' := 469) i216_467 rfl rfl <| ok_fcmp0 (pc' := 470) i216_469 nf0 rfl <| ok_kz0 (pc1 := 477) (pc2 := 473) i216_470 (by decide) rfl rfl <| ok_iconst (pc' := 474) i216_473 rfl <| ok_goto (pc' := 478) i216_474 rfl <| ok_iretz i216_478 rt216 (by decide) <| ?_
      exact hret
theorem w216_308_1 {g : AG} {M : AM} {O : Nat} {A : YA} {s q : Int → Int} {b : Int} {d : Nat} {Q : AO → AG → AM → Prop} {w11 : AV} (hY : Yd g M O A s q) (hW : CW g M O b q s) (hw11 : am_cat w11 = 1) (hw : wr (s 11) = 0) (hw2 : wr (((s 13) + (s 7)) + (s 8)) ≠ 0) (hfo : (-1 ≤ (r218 s 0) ∧ ((r218 s 0) = -1 ∨ (0 ≤ (r218 s 0) ∧ (r218 s 0) < s 4)) ∧ ((r218 s 0) < s 4 ∨ (r218 s 0) = -1))) (hH6 : (-1 ≤ (r34 s 1 2) ∧ ((r34 s 1 2) = -1 ∨ (0 ≤ (r34 s 1 2) ∧ (r34 s 1 2) < s 3)) ∧ ((r34 s 1 2) < s 3 ∨ (r34 s 1 2) = -1))) (hret : Q (.inl (some (aI 1))) g M) : Ok (d + 12) 216 308 [aR O, aR 101, aI (r18 s), aI (r19 s), aI (itv (f219_13 s) 0 0 ((s 4).toNat)), aI (r21 s), aI (itv (f215_13 s) 0 0 ((s 3).toNat)), aI (itv (f216_13 s q) 0 0 ((s 3).toNat)), aR (nulR A.D (r218 s 0)), aR (nulR A.R (r34 s 1 2)), aI 201, w11, aU, aU] [] g M Q := by
  have hV := hW.2.1.v
  have hQ := V_q hV
  have y3 := V_3 hV
  have y4 := V_4 hV
  have y5 := V_5 hV
  have yq0 := Q_0 hQ
  have yq1 := Q_1 hQ
  refine ok_aloadn (pc' := 309) i216_308 rfl rfl <| ok_getfr (r := 110) (pc' := 312) i216_309 o216 gr13_164 (hY.gr.ky) (hY.gr.r7) rfl <| ok_iconst (pc' := 313) i216_312 rfl <| ok_iaload (v := (s 11)) (pc' := 314) i216_313 (hY.gr.ka) (by decide) (hY.gr.la) (by decide) ((Yd.acz hY (i := 5) (z := 11) (by omega) (by omega) (by omega))) rfl <| ?_
  refine ok_znew (pc1 := 321) (pc2 := 317) i216_314 rfl rfl (fun h9 => by first | exact absurd hw h9 | exact absurd h9 hw) (fun _ => ?_)
  refine ok_dconst0 (pc' := 318) i216_317 rfl <| ok_goto (pc' := 336) i216_318 rfl <| ok_dstore (pc' := 338) (ls' := [aR O, aR 101, aI (r18 s), aI (r19 s), aI (itv (f219_13 s) 0 0 ((s 4).toNat)), aI (r21 s), aI (itv (f215_13 s) 0 0 ((s 3).toNat)), aI (itv (f216_13 s q) 0 0 ((s 3).toNat)), aR (nulR A.D (r218 s 0)), aR (nulR A.R (r34 s 1 2)), aD 0, aU, aU, aU]) i216_336 (bt rfl) rfl rfl <| ok_aloadn (pc' := 339) i216_338 rfl rfl <| ok_getfr (r := 110) (pc' := 342) i216_339 o216 gr13_164 (hY.gr.ky) (hY.gr.r7) rfl <| ok_bipush (v := 7) (pc' := 344) i216_342 rfl rfl <| ok_iaload (v := (s 13)) (pc' := 345) i216_344 (hY.gr.ka) (by decide) (hY.gr.la) (by decide) ((Yd.acz hY (i := 7) (z := 13) (by omega) (by omega) (by omega))) rfl <| ok_aloadn (pc' := 346) i216_345 rfl rfl <| ?_
  refine ok_getfr (r := 110) (pc' := 349) i216_346 o216 gr13_164 (hY.gr.ky) (hY.gr.r7) rfl <| ok_iconst (pc' := 350) i216_349 rfl <| ok_iaload (v := (s 7)) (pc' := 351) i216_350 (hY.gr.ka) (by decide) (hY.gr.la) (by decide) ((Yd.acz hY (i := 1) (z := 7) (by omega) (by omega) (by omega))) rfl <| ok_iadd (v := ((s 13) + (s 7))) (pc' := 352) i216_351 rfl rfl <| ok_aloadn (pc' := 353) i216_352 rfl rfl <| ok_getfr (r := 110) (pc' := 356) i216_353 o216 gr13_164 (hY.gr.ky) (hY.gr.r7) rfl <| ok_iconst (pc' := 357) i216_356 rfl <| ok_iaload (v := (s 8)) (pc' := 358) i216_357 (hY.gr.ka) (by decide) (hY.gr.la) (by decide) ((Yd.acz hY (i := 2) (z := 8) (by omega) (by omega) (by omega))) rfl <| ?_
  refine ok_iadd (v := (((s 13) + (s 7)) + (s 8))) (pc' := 359) i216_358 rfl rfl <| ok_istore (pc' := 361) (ls' := [aR O, aR 101, aI (r18 s), aI (r19 s), aI (itv (f219_13 s) 0 0 ((s 4).toNat)), aI (r21 s), aI (itv (f215_13 s) 0 0 ((s 3).toNat)), aI (itv (f216_13 s q) 0 0 ((s 3).toNat)), aR (nulR A.D (r218 s 0)), aR (nulR A.R (r34 s 1 2)), aD 0, aU, aI (((s 13) + (s 7)) + (s 8)), aU]) i216_359 (bt rfl) rfl rfl <| ok_iload (pc' := 363) i216_361 rfl rfl <| ?_
  refine ok_znew (pc1 := 370) (pc2 := 366) i216_363 rfl rfl (fun _ => ?_) (fun h9 => by first | exact absurd hw2 h9 | exact absurd h9 hw2)
  refine ok_aloadn (pc' := 371) i216_370 rfl rfl <| ok_getfr (r := 110) (pc' := 374) i216_371 o216 gr13_164 (hY.gr.ky) (hY.gr.r7) rfl <| ok_bipush (v := 7) (pc' := 376) i216_374 rfl rfl <| ok_iaload (v := (s 13)) (pc' := 377) i216_376 (hY.gr.ka) (by decide) (hY.gr.la) (by decide) ((Yd.acz hY (i := 7) (z := 13) (by omega) (by omega) (by omega))) rfl <| ok_i2f (pc' := 378) i216_377 rfl <| ok_iload (pc' := 380) i216_378 rfl rfl <| ok_i2f (pc' := 381) i216_380 rfl <| ok_fdivq (pc' := 382) i216_381 hw2 rfl <| ?_
  refine ok_fstore (pc' := 384) (ls' := [aR O, aR 101, aI (r18 s), aI (r19 s), aI (itv (f219_13 s) 0 0 ((s 4).toNat)), aI (r21 s), aI (itv (f215_13 s) 0 0 ((s 3).toNat)), aI (itv (f216_13 s q) 0 0 ((s 3).toNat)), aR (nulR A.D (r218 s 0)), aR (nulR A.R (r34 s 1 2)), aD 0, aU, aI (((s 13) + (s 7)) + (s 8)), aF (fdq (s 13) (((s 13) + (s 7)) + (s 8)))]) i216_382 (bt rfl) rfl rfl <| ok_aloadn (pc' := 385) i216_384 rfl rfl <| ?_
  refine ok_cc i216_385 rfl (cl_v o216 m13_279 na118 rfl rfl (bt rfl) (bt rfl) rfl (by rw [(ShYard_k0 hW.1.y), o118])) ln118 (pd118 (aR O)) <| (Ok.deep (y118 (Y := O) (P := O + 38) (A := O + 49) (V := O + 73) (T := O + 74) (K := O + 100) (H := O + 102) (X := O + 346) hW.1.y hW.1.w hW.1.p hW.1.s hW.2.1.p hW.2.1.s hQ hV hW.2.1.l) (by omega)).mono (fun o9 g21q M21q p21q => ?_)
  obtain ⟨rfl, eg21q, em21q⟩ := p21q
  rw [eg21q, em21q]
  refine kt_v (pc' := 388) rfl <| ok_iload (pc' := 390) i216_388 rfl rfl <| ok_cnes (pc1 := 477) (pc2 := 393) i216_390 rfl rfl <| ok_aloadn (pc' := 394) i216_393 rfl rfl <| ?_
  refine ok_cc i216_394 rfl (cl_v o216 m13_282 na119 rfl rfl (bt rfl) (bt rfl) rfl (by rw [(ShYard_k0 hW.1.y), o119])) ln119 (pd119 (aR O)) <| (Ok.deep (y119 (Y := O) (P := O + 38) (A := O + 49) (V := O + 73) (T := O + 74) (K := O + 100) (H := O + 102) (X := O + 346) hW.1.y hW.1.w hW.1.p hW.1.s hW.2.1.p hW.2.1.s hQ hV hW.2.1.l) (by omega)).mono (fun o9 g22q M22q p22q => ?_)
  obtain ⟨rfl, eg22q, em22q⟩ := p22q
  rw [eg22q, em22q]
  refine kt_v (pc' := 397) rfl <| ok_iload (pc' := 399) i216_397 rfl rfl <| ok_cnes (pc1 := 477) (pc2 := 402) i216_399 rfl rfl <| ok_aloadn (pc' := 403) i216_402 rfl rfl <| ?_
  refine ok_cc i216_403 rfl (cl_v o216 m13_285 na121 rfl rfl (bt rfl) (bt rfl) rfl (by rw [(ShYard_k0 hW.1.y), o121])) ln121 (pd121 (aR O)) <| (Ok.deep (y121 (Y := O) (P := O + 38) (A := O + 49) (V := O + 73) (T := O + 74) (K := O + 100) (H := O + 102) (X := O + 346) hW.1.y hW.1.w hW.1.p hW.1.s hW.2.1.p hW.2.1.s hQ hV hW.2.1.l) (by omega)).mono (fun o9 g23q M23q p23q => ?_)
  obtain ⟨rfl, eg23q, em23q⟩ := p23q
  rw [eg23q, em23q]
  refine kt_v (pc' := 406) rfl <| ok_iload (pc' := 408) i216_406 rfl rfl <| ok_cnes (pc1 := 477) (pc2 := 411) i216_408 rfl rfl <| ok_aloadn (pc' := 412) i216_411 rfl rfl <| ?_
  refine ok_cc i216_412 rfl (cl_v o216 m13_288 na120 rfl rfl (bt rfl) (bt rfl) rfl (by rw [(ShYard_k0 hW.1.y), o120])) ln120 (pd120 (aR O)) <| (Ok.deep (y120 (Y := O) (P := O + 38) (A := O + 49) (V := O + 73) (T := O + 74) (K := O + 100) (H := O + 102) (X := O + 346) hW.1.y hW.1.w hW.1.p hW.1.s hW.2.1.p hW.2.1.s hQ hV hW.2.1.l) (by omega)).mono (fun o9 g24q M24q p24q => ?_)
  obtain ⟨rfl, eg24q, em24q⟩ := p24q
  rw [eg24q, em24q]
  rw [← r24_218 hV]
  refine kt_v (pc' := 415) rfl <| ok_aload (pc' := 417) i216_415 rfl rfl <| ?_
  by_cases u1 : (r218 s 0) = -1
  · rw [show nulR A.D (r218 s 0) = 0 by rw [u1, nulR_0]]
    refine ok_ifnn1 (pc1 := 420) i216_417 (by decide) rfl <| ok_iconst (pc' := 421) i216_420 rfl <| ok_goto (pc' := 429) i216_421 rfl <| ?_
    refine ok_cne (pc1 := 477) (pc2 := 432) i216_429 (by omega) rfl rfl (fun h9 => by exfalso; omega) (fun h2 => ?_)
    refine ok_aloadn (pc' := 433) i216_432 rfl rfl <| ?_
    refine ok_cc i216_433 rfl (cl_v o216 m13_291 na117 rfl rfl (bt rfl) (bt rfl) rfl (by rw [(ShYard_k0 hW.1.y), o117])) ln117 (pd117 (aR O)) <| (Ok.deep (y117 (Y := O) (P := O + 38) (A := O + 49) (V := O + 73) (T := O + 74) (K := O + 100) (H := O + 102) (X := O + 346) hW.1.y hW.1.w hW.1.p hW.1.s hW.2.1.p hW.2.1.s hQ hV hW.2.1.l) (by omega)).mono (fun o9 g25q M25q p25q => ?_)
    obtain ⟨rfl, eg25q, em25q⟩ := p25q
    rw [eg25q, em25q]
    rw [← r23_34]
    refine kt_v (pc' := 436) rfl <| ok_aload (pc' := 438) i216_436 rfl rfl <| ?_
    by_cases u3 : (r34 s 1 2) = -1
    · rw [show nulR A.R (r34 s 1 2) = 0 by rw [u3, nulR_0]]
      refine ok_ifnn1 (pc1 := 441) i216_438 (by decide) rfl <| ok_iconst (pc' := 442) i216_441 rfl <| ok_goto (pc' := 450) i216_442 rfl <| ?_
      refine ok_cne (pc1 := 477) (pc2 := 453) i216_450 (by omega) rfl rfl (fun h9 => by exfalso; omega) (fun h4 => ?_)
      refine ok_aloadn (pc' := 454) i216_453 rfl rfl <| ?_
      refine ok_cc i216_454 rfl (cl_v o216 m13_294 na136 rfl rfl (bt rfl) (bt rfl) rfl (by rw [(ShYard_k0 hW.1.y), o136])) ln136 (pd136 (aR O)) <| (Ok.deep (y136_0 hW.1 hW.2.1 hw) (by omega)).mono (fun o9 g26q M26q p26q => ?_)
      obtain ⟨rfl, eg26q, em26q⟩ := p26q
      rw [eg26q, em26q]
      refine kt_v (pc' := 457) rfl <| ok_dload (pc' := 459) i216_457 rfl rfl <| ok_dcmp0 (pc' := 460) i216_459 nn0 rfl <| ok_kz0 (pc1 := 477) (pc2 := 463) i216_460 (by decide) rfl rfl <| ok_aloadn (pc' := 464) i216_463 rfl rfl <| ?_
      refine ok_cc i216_464 rfl (cl_v o216 m13_298 na137 rfl rfl (bt rfl) (bt rfl) rfl (by rw [(ShYard_k0 hW.1.y), o137])) ln137 (pd137 (aR O)) <| (Ok.deep (y137_1 hW.1 hW.2.1 hw2) (by omega)).mono (fun o9 g27q M27q p27q => ?_)
      obtain ⟨rfl, eg27q, em27q⟩ := p27q
      rw [eg27q, em27q]
      refine kt_v (pc' := 467) rfl <| ok_fload (pc' := 469) i216_467 rfl rfl <| ok_fcmp0 (pc' := 470) i216_469 (fdq_nf hw2) rfl <| ok_kz0 (pc1 := 477) (pc2 := 473) i216_470 (by decide) rfl rfl <| ok_iconst (pc' := 474) i216_473 rfl <| ok_goto (pc' := 478) i216_474 rfl <| ok_iretz i216_478 rt216 (by decide) <| ?_
      exact hret
    · rw [show nulR A.R (r34 s 1 2) = A.R (r34 s 1 2) from nulR_1 u3]
      have z5 : 0 ≤ (r34 s 1 2) ∧ (r34 s 1 2) < s 3 := by omega
      refine ok_ifnn0 (pc1 := 445) i216_438 (Or.inl (Nat.le_trans (by decide) (hY.gr.rr (r34 s 1 2) (by omega) (by omega)).2.1.1)) rfl <| ok_aload (pc' := 447) i216_445 rfl rfl <| ok_getfi (v := (r34 s 1 2)) (pc' := 450) i216_447 o216 gi13_253 ((hY.gr.rr (r34 s 1 2) (by omega) (by omega)).2.2) ((hY.mr.rn (r34 s 1 2) (by omega) (by omega))) rfl <| ok_cnes (pc1 := 477) (pc2 := 453) i216_450 rfl rfl <| ok_aloadn (pc' := 454) i216_453 rfl rfl <| ?_
      refine ok_cc i216_454 rfl (cl_v o216 m13_294 na136 rfl rfl (bt rfl) (bt rfl) rfl (by rw [(ShYard_k0 hW.1.y), o136])) ln136 (pd136 (aR O)) <| (Ok.deep (y136_0 hW.1 hW.2.1 hw) (by omega)).mono (fun o9 g28q M28q p28q => ?_)
      obtain ⟨rfl, eg28q, em28q⟩ := p28q
      rw [eg28q, em28q]
      refine kt_v (pc' := 457) rfl <| ok_dload (pc' := 459) i216_457 rfl rfl <| ok_dcmp0 (pc' := 460) i216_459 nn0 rfl <| ok_kz0 (pc1 := 477) (pc2 := 463) i216_460 (by decide) rfl rfl <| ok_aloadn (pc' := 464) i216_463 rfl rfl <| ?_
      refine ok_cc i216_464 rfl (cl_v o216 m13_298 na137 rfl rfl (bt rfl) (bt rfl) rfl (by rw [(ShYard_k0 hW.1.y), o137])) ln137 (pd137 (aR O)) <| (Ok.deep (y137_1 hW.1 hW.2.1 hw2) (by omega)).mono (fun o9 g29q M29q p29q => ?_)
      obtain ⟨rfl, eg29q, em29q⟩ := p29q
      rw [eg29q, em29q]
      refine kt_v (pc' := 467) rfl <| ok_fload (pc' := 469) i216_467 rfl rfl <| ok_fcmp0 (pc' := 470) i216_469 (fdq_nf hw2) rfl <| ok_kz0 (pc1 := 477) (pc2 := 473) i216_470 (by decide) rfl rfl <| ok_iconst (pc' := 474) i216_473 rfl <| ok_goto (pc' := 478) i216_474 rfl <| ok_iretz i216_478 rt216 (by decide) <| ?_
      exact hret
  · rw [show nulR A.D (r218 s 0) = A.D (r218 s 0) from nulR_1 u1]
    have z6 : 0 ≤ (r218 s 0) ∧ (r218 s 0) < s 4 := by omega
    refine ok_ifnn0 (pc1 := 424) i216_417 (Or.inl (Nat.le_trans (by decide) (hY.gr.dd (r218 s 0) (by omega) (by omega)).2.1.1)) rfl <| ok_aload (pc' := 426) i216_424 rfl rfl <| ok_getfi (v := (r218 s 0)) (pc' := 429) i216_426 o216 gi13_247 ((hY.gr.dd (r218 s 0) (by omega) (by omega)).2.2) ((hY.mr.dn (r218 s 0) (by omega) (by omega))) rfl <| ok_cnes (pc1 := 477) (pc2 := 432) i216_429 rfl rfl <| ok_aloadn (pc' := 433) i216_432 rfl rfl <| ?_
    refine ok_cc i216_433 rfl (cl_v o216 m13_291 na117 rfl rfl (bt rfl) (bt rfl) rfl (by rw [(ShYard_k0 hW.1.y), o117])) ln117 (pd117 (aR O)) <| (Ok.deep (y117 (Y := O) (P := O + 38) (A := O + 49) (V := O + 73) (T := O + 74) (K := O + 100) (H := O + 102) (X := O + 346) hW.1.y hW.1.w hW.1.p hW.1.s hW.2.1.p hW.2.1.s hQ hV hW.2.1.l) (by omega)).mono (fun o9 g30q M30q p30q => ?_)
    obtain ⟨rfl, eg30q, em30q⟩ := p30q
    rw [eg30q, em30q]
    rw [← r23_34]
    refine kt_v (pc' := 436) rfl <| ok_aload (pc' := 438) i216_436 rfl rfl <| ?_
    by_cases u7 : (r34 s 1 2) = -1
    · rw [show nulR A.R (r34 s 1 2) = 0 by rw [u7, nulR_0]]
      refine ok_ifnn1 (pc1 := 441) i216_438 (by decide) rfl <| ok_iconst (pc' := 442) i216_441 rfl <| ok_goto (pc' := 450) i216_442 rfl <| ?_
      refine ok_cne (pc1 := 477) (pc2 := 453) i216_450 (by omega) rfl rfl (fun h9 => by exfalso; omega) (fun h8 => ?_)
      refine ok_aloadn (pc' := 454) i216_453 rfl rfl <| ?_
      refine ok_cc i216_454 rfl (cl_v o216 m13_294 na136 rfl rfl (bt rfl) (bt rfl) rfl (by rw [(ShYard_k0 hW.1.y), o136])) ln136 (pd136 (aR O)) <| (Ok.deep (y136_0 hW.1 hW.2.1 hw) (by omega)).mono (fun o9 g31q M31q p31q => ?_)
      obtain ⟨rfl, eg31q, em31q⟩ := p31q
      rw [eg31q, em31q]
      refine kt_v (pc' := 457) rfl <| ok_dload (pc' := 459) i216_457 rfl rfl <| ok_dcmp0 (pc' := 460) i216_459 nn0 rfl <| ok_kz0 (pc1 := 477) (pc2 := 463) i216_460 (by decide) rfl rfl <| ok_aloadn (pc' := 464) i216_463 rfl rfl <| ?_
      refine ok_cc i216_464 rfl (cl_v o216 m13_298 na137 rfl rfl (bt rfl) (bt rfl) rfl (by rw [(ShYard_k0 hW.1.y), o137])) ln137 (pd137 (aR O)) <| (Ok.deep (y137_1 hW.1 hW.2.1 hw2) (by omega)).mono (fun o9 g32q M32q p32q => ?_)
      obtain ⟨rfl, eg32q, em32q⟩ := p32q
      rw [eg32q, em32q]
      refine kt_v (pc' := 467) rfl <| ok_fload (pc' := 469) i216_467 rfl rfl <| ok_fcmp0 (pc' := 470) i216_469 (fdq_nf hw2) rfl <| ok_kz0 (pc1 := 477) (pc2 := 473) i216_470 (by decide) rfl rfl <| ok_iconst (pc' := 474) i216_473 rfl <| ok_goto (pc' := 478) i216_474 rfl <| ok_iretz i216_478 rt216 (by decide) <| ?_
      exact hret
    · rw [show nulR A.R (r34 s 1 2) = A.R (r34 s 1 2) from nulR_1 u7]
      have z9 : 0 ≤ (r34 s 1 2) ∧ (r34 s 1 2) < s 3 := by omega
      refine ok_ifnn0 (pc1 := 445) i216_438 (Or.inl (Nat.le_trans (by decide) (hY.gr.rr (r34 s 1 2) (by omega) (by omega)).2.1.1)) rfl <| ok_aload (pc' := 447) i216_445 rfl rfl <| ok_getfi (v := (r34 s 1 2)) (pc' := 450) i216_447 o216 gi13_253 ((hY.gr.rr (r34 s 1 2) (by omega) (by omega)).2.2) ((hY.mr.rn (r34 s 1 2) (by omega) (by omega))) rfl <| ok_cnes (pc1 := 477) (pc2 := 453) i216_450 rfl rfl <| ok_aloadn (pc' := 454) i216_453 rfl rfl <| ?_
      refine ok_cc i216_454 rfl (cl_v o216 m13_294 na136 rfl rfl (bt rfl) (bt rfl) rfl (by rw [(ShYard_k0 hW.1.y), o136])) ln136 (pd136 (aR O)) <| (Ok.deep (y136_0 hW.1 hW.2.1 hw) (by omega)).mono (fun o9 g33q M33q p33q => ?_)
      obtain ⟨rfl, eg33q, em33q⟩ := p33q
      rw [eg33q, em33q]
      refine kt_v (pc' := 457) rfl <| ok_dload (pc' := 459) i216_457 rfl rfl <| ok_dcmp0 (pc' := 460) i216_459 nn0 rfl <| ok_kz0 (pc1 := 477) (pc2 := 463) i216_460 (by decide) rfl rfl <| ok_aloadn (pc' := 464) i216_463 rfl rfl <| ?_
      refine ok_cc i216_464 rfl (cl_v o216 m13_298 na137 rfl rfl (bt rfl) (bt rfl) rfl (by rw [(ShYard_k0 hW.1.y), o137])) ln137 (pd137 (aR O)) <| (Ok.deep (y137_1 hW.1 hW.2.1 hw2) (by omega)).mono (fun o9 g34q M34q p34q => ?_)
      obtain ⟨rfl, eg34q, em34q⟩ := p34q
      rw [eg34q, em34q]
      refine kt_v (pc' := 467) rfl <| ok_fload (pc' := 469) i216_467 rfl rfl <| ok_fcmp0 (pc' := 470) i216_469 (fdq_nf hw2) rfl <| ok_kz0 (pc1 := 477) (pc2 := 473) i216_470 (by decide) rfl rfl <| ok_iconst (pc' := 474) i216_473 rfl <| ok_goto (pc' := 478) i216_474 rfl <| ok_iretz i216_478 rt216 (by decide) <| ?_
      exact hret
theorem w216_308_2 {g : AG} {M : AM} {O : Nat} {A : YA} {s q : Int → Int} {b : Int} {d : Nat} {Q : AO → AG → AM → Prop} {w11 : AV} (hY : Yd g M O A s q) (hW : CW g M O b q s) (hw11 : am_cat w11 = 1) (hw : wr (s 11) ≠ 0) (hw2 : wr (((s 13) + (s 7)) + (s 8)) = 0) (hfo : (-1 ≤ (r218 s 0) ∧ ((r218 s 0) = -1 ∨ (0 ≤ (r218 s 0) ∧ (r218 s 0) < s 4)) ∧ ((r218 s 0) < s 4 ∨ (r218 s 0) = -1))) (hH6 : (-1 ≤ (r34 s 1 2) ∧ ((r34 s 1 2) = -1 ∨ (0 ≤ (r34 s 1 2) ∧ (r34 s 1 2) < s 3)) ∧ ((r34 s 1 2) < s 3 ∨ (r34 s 1 2) = -1))) (hret : Q (.inl (some (aI 1))) g M) : Ok (d + 12) 216 308 [aR O, aR 101, aI (r18 s), aI (r19 s), aI (itv (f219_13 s) 0 0 ((s 4).toNat)), aI (r21 s), aI (itv (f215_13 s) 0 0 ((s 3).toNat)), aI (itv (f216_13 s q) 0 0 ((s 3).toNat)), aR (nulR A.D (r218 s 0)), aR (nulR A.R (r34 s 1 2)), aI 201, w11, aU, aU] [] g M Q := by
  have hV := hW.2.1.v
  have hQ := V_q hV
  have y3 := V_3 hV
  have y4 := V_4 hV
  have y5 := V_5 hV
  have yq0 := Q_0 hQ
  have yq1 := Q_1 hQ
  refine ok_aloadn (pc' := 309) i216_308 rfl rfl <| ok_getfr (r := 110) (pc' := 312) i216_309 o216 gr13_164 (hY.gr.ky) (hY.gr.r7) rfl <| ok_iconst (pc' := 313) i216_312 rfl <| ok_iaload (v := (s 11)) (pc' := 314) i216_313 (hY.gr.ka) (by decide) (hY.gr.la) (by decide) ((Yd.acz hY (i := 5) (z := 11) (by omega) (by omega) (by omega))) rfl <| ?_
  refine ok_znew (pc1 := 321) (pc2 := 317) i216_314 rfl rfl (fun _ => ?_) (fun h9 => by first | exact absurd hw h9 | exact absurd h9 hw)
  refine ok_aloadn (pc' := 322) i216_321 rfl rfl <| ok_getfr (r := 110) (pc' := 325) i216_322 o216 gr13_164 (hY.gr.ky) (hY.gr.r7) rfl <| ok_iconst (pc' := 326) i216_325 rfl <| ok_iaload (v := (s 9)) (pc' := 327) i216_326 (hY.gr.ka) (by decide) (hY.gr.la) (by decide) ((Yd.acz hY (i := 3) (z := 9) (by omega) (by omega) (by omega))) rfl <| ok_i2d (pc' := 328) i216_327 rfl <| ok_aloadn (pc' := 329) i216_328 rfl rfl <| ok_getfr (r := 110) (pc' := 332) i216_329 o216 gr13_164 (hY.gr.ky) (hY.gr.r7) rfl <| ok_iconst (pc' := 333) i216_332 rfl <| ?_
  refine ok_iaload (v := (s 11)) (pc' := 334) i216_333 (hY.gr.ka) (by decide) (hY.gr.la) (by decide) ((Yd.acz hY (i := 5) (z := 11) (by omega) (by omega) (by omega))) rfl <| ok_i2d (pc' := 335) i216_334 rfl <| ok_ddivq (pc' := 336) i216_335 hw rfl <| ok_dstore (pc' := 338) (ls' := [aR O, aR 101, aI (r18 s), aI (r19 s), aI (itv (f219_13 s) 0 0 ((s 4).toNat)), aI (r21 s), aI (itv (f215_13 s) 0 0 ((s 3).toNat)), aI (itv (f216_13 s q) 0 0 ((s 3).toNat)), aR (nulR A.D (r218 s 0)), aR (nulR A.R (r34 s 1 2)), aD (ddq (s 9) (s 11)), aU, aU, aU]) i216_336 (bt rfl) rfl rfl <| ok_aloadn (pc' := 339) i216_338 rfl rfl <| ok_getfr (r := 110) (pc' := 342) i216_339 o216 gr13_164 (hY.gr.ky) (hY.gr.r7) rfl <| ok_bipush (v := 7) (pc' := 344) i216_342 rfl rfl <| ok_iaload (v := (s 13)) (pc' := 345) i216_344 (hY.gr.ka) (by decide) (hY.gr.la) (by decide) ((Yd.acz hY (i := 7) (z := 13) (by omega) (by omega) (by omega))) rfl <| ?_
  refine ok_aloadn (pc' := 346) i216_345 rfl rfl <| ok_getfr (r := 110) (pc' := 349) i216_346 o216 gr13_164 (hY.gr.ky) (hY.gr.r7) rfl <| ok_iconst (pc' := 350) i216_349 rfl <| ok_iaload (v := (s 7)) (pc' := 351) i216_350 (hY.gr.ka) (by decide) (hY.gr.la) (by decide) ((Yd.acz hY (i := 1) (z := 7) (by omega) (by omega) (by omega))) rfl <| ok_iadd (v := ((s 13) + (s 7))) (pc' := 352) i216_351 rfl rfl <| ok_aloadn (pc' := 353) i216_352 rfl rfl <| ok_getfr (r := 110) (pc' := 356) i216_353 o216 gr13_164 (hY.gr.ky) (hY.gr.r7) rfl <| ok_iconst (pc' := 357) i216_356 rfl <| ?_
  refine ok_iaload (v := (s 8)) (pc' := 358) i216_357 (hY.gr.ka) (by decide) (hY.gr.la) (by decide) ((Yd.acz hY (i := 2) (z := 8) (by omega) (by omega) (by omega))) rfl <| ok_iadd (v := (((s 13) + (s 7)) + (s 8))) (pc' := 359) i216_358 rfl rfl <| ok_istore (pc' := 361) (ls' := [aR O, aR 101, aI (r18 s), aI (r19 s), aI (itv (f219_13 s) 0 0 ((s 4).toNat)), aI (r21 s), aI (itv (f215_13 s) 0 0 ((s 3).toNat)), aI (itv (f216_13 s q) 0 0 ((s 3).toNat)), aR (nulR A.D (r218 s 0)), aR (nulR A.R (r34 s 1 2)), aD (ddq (s 9) (s 11)), aU, aI (((s 13) + (s 7)) + (s 8)), aU]) i216_359 (bt rfl) rfl rfl <| ok_iload (pc' := 363) i216_361 rfl rfl <| ?_
  refine ok_znew (pc1 := 370) (pc2 := 366) i216_363 rfl rfl (fun h9 => by first | exact absurd hw2 h9 | exact absurd h9 hw2) (fun _ => ?_)
  refine ok_fconst0 (pc' := 367) i216_366 rfl <| ok_goto (pc' := 382) i216_367 rfl <| ok_fstore (pc' := 384) (ls' := [aR O, aR 101, aI (r18 s), aI (r19 s), aI (itv (f219_13 s) 0 0 ((s 4).toNat)), aI (r21 s), aI (itv (f215_13 s) 0 0 ((s 3).toNat)), aI (itv (f216_13 s q) 0 0 ((s 3).toNat)), aR (nulR A.D (r218 s 0)), aR (nulR A.R (r34 s 1 2)), aD (ddq (s 9) (s 11)), aU, aI (((s 13) + (s 7)) + (s 8)), aF 0]) i216_382 (bt rfl) rfl rfl <| ok_aloadn (pc' := 385) i216_384 rfl rfl <| ?_
  refine ok_cc i216_385 rfl (cl_v o216 m13_279 na118 rfl rfl (bt rfl) (bt rfl) rfl (by rw [(ShYard_k0 hW.1.y), o118])) ln118 (pd118 (aR O)) <| (Ok.deep (y118 (Y := O) (P := O + 38) (A := O + 49) (V := O + 73) (T := O + 74) (K := O + 100) (H := O + 102) (X := O + 346) hW.1.y hW.1.w hW.1.p hW.1.s hW.2.1.p hW.2.1.s hQ hV hW.2.1.l) (by omega)).mono (fun o9 g35q M35q p35q => ?_)
  obtain ⟨rfl, eg35q, em35q⟩ := p35q
  rw [eg35q, em35q]
  refine kt_v (pc' := 388) rfl <| ok_iload (pc' := 390) i216_388 rfl rfl <| ok_cnes (pc1 := 477) (pc2 := 393) i216_390 rfl rfl <| ok_aloadn (pc' := 394) i216_393 rfl rfl <| ?_
  refine ok_cc i216_394 rfl (cl_v o216 m13_282 na119 rfl rfl (bt rfl) (bt rfl) rfl (by rw [(ShYard_k0 hW.1.y), o119])) ln119 (pd119 (aR O)) <| (Ok.deep (y119 (Y := O) (P := O + 38) (A := O + 49) (V := O + 73) (T := O + 74) (K := O + 100) (H := O + 102) (X := O + 346) hW.1.y hW.1.w hW.1.p hW.1.s hW.2.1.p hW.2.1.s hQ hV hW.2.1.l) (by omega)).mono (fun o9 g36q M36q p36q => ?_)
  obtain ⟨rfl, eg36q, em36q⟩ := p36q
  rw [eg36q, em36q]
  refine kt_v (pc' := 397) rfl <| ok_iload (pc' := 399) i216_397 rfl rfl <| ok_cnes (pc1 := 477) (pc2 := 402) i216_399 rfl rfl <| ok_aloadn (pc' := 403) i216_402 rfl rfl <| ?_
  refine ok_cc i216_403 rfl (cl_v o216 m13_285 na121 rfl rfl (bt rfl) (bt rfl) rfl (by rw [(ShYard_k0 hW.1.y), o121])) ln121 (pd121 (aR O)) <| (Ok.deep (y121 (Y := O) (P := O + 38) (A := O + 49) (V := O + 73) (T := O + 74) (K := O + 100) (H := O + 102) (X := O + 346) hW.1.y hW.1.w hW.1.p hW.1.s hW.2.1.p hW.2.1.s hQ hV hW.2.1.l) (by omega)).mono (fun o9 g37q M37q p37q => ?_)
  obtain ⟨rfl, eg37q, em37q⟩ := p37q
  rw [eg37q, em37q]
  refine kt_v (pc' := 406) rfl <| ok_iload (pc' := 408) i216_406 rfl rfl <| ok_cnes (pc1 := 477) (pc2 := 411) i216_408 rfl rfl <| ok_aloadn (pc' := 412) i216_411 rfl rfl <| ?_
  refine ok_cc i216_412 rfl (cl_v o216 m13_288 na120 rfl rfl (bt rfl) (bt rfl) rfl (by rw [(ShYard_k0 hW.1.y), o120])) ln120 (pd120 (aR O)) <| (Ok.deep (y120 (Y := O) (P := O + 38) (A := O + 49) (V := O + 73) (T := O + 74) (K := O + 100) (H := O + 102) (X := O + 346) hW.1.y hW.1.w hW.1.p hW.1.s hW.2.1.p hW.2.1.s hQ hV hW.2.1.l) (by omega)).mono (fun o9 g38q M38q p38q => ?_)
  obtain ⟨rfl, eg38q, em38q⟩ := p38q
  rw [eg38q, em38q]
  rw [← r24_218 hV]
  refine kt_v (pc' := 415) rfl <| ok_aload (pc' := 417) i216_415 rfl rfl <| ?_
  by_cases u1 : (r218 s 0) = -1
  · rw [show nulR A.D (r218 s 0) = 0 by rw [u1, nulR_0]]
    refine ok_ifnn1 (pc1 := 420) i216_417 (by decide) rfl <| ok_iconst (pc' := 421) i216_420 rfl <| ok_goto (pc' := 429) i216_421 rfl <| ?_
    refine ok_cne (pc1 := 477) (pc2 := 432) i216_429 (by omega) rfl rfl (fun h9 => by exfalso; omega) (fun h2 => ?_)
    refine ok_aloadn (pc' := 433) i216_432 rfl rfl <| ?_
    refine ok_cc i216_433 rfl (cl_v o216 m13_291 na117 rfl rfl (bt rfl) (bt rfl) rfl (by rw [(ShYard_k0 hW.1.y), o117])) ln117 (pd117 (aR O)) <| (Ok.deep (y117 (Y := O) (P := O + 38) (A := O + 49) (V := O + 73) (T := O + 74) (K := O + 100) (H := O + 102) (X := O + 346) hW.1.y hW.1.w hW.1.p hW.1.s hW.2.1.p hW.2.1.s hQ hV hW.2.1.l) (by omega)).mono (fun o9 g39q M39q p39q => ?_)
    obtain ⟨rfl, eg39q, em39q⟩ := p39q
    rw [eg39q, em39q]
    rw [← r23_34]
    refine kt_v (pc' := 436) rfl <| ok_aload (pc' := 438) i216_436 rfl rfl <| ?_
    by_cases u3 : (r34 s 1 2) = -1
    · rw [show nulR A.R (r34 s 1 2) = 0 by rw [u3, nulR_0]]
      refine ok_ifnn1 (pc1 := 441) i216_438 (by decide) rfl <| ok_iconst (pc' := 442) i216_441 rfl <| ok_goto (pc' := 450) i216_442 rfl <| ?_
      refine ok_cne (pc1 := 477) (pc2 := 453) i216_450 (by omega) rfl rfl (fun h9 => by exfalso; omega) (fun h4 => ?_)
      refine ok_aloadn (pc' := 454) i216_453 rfl rfl <| ?_
      refine ok_cc i216_454 rfl (cl_v o216 m13_294 na136 rfl rfl (bt rfl) (bt rfl) rfl (by rw [(ShYard_k0 hW.1.y), o136])) ln136 (pd136 (aR O)) <| (Ok.deep (y136_1 hW.1 hW.2.1 hw) (by omega)).mono (fun o9 g40q M40q p40q => ?_)
      obtain ⟨rfl, eg40q, em40q⟩ := p40q
      rw [eg40q, em40q]
      refine kt_v (pc' := 457) rfl <| ok_dload (pc' := 459) i216_457 rfl rfl <| ok_dcmp0 (pc' := 460) i216_459 (ddq_nn hw) rfl <| ok_kz0 (pc1 := 477) (pc2 := 463) i216_460 (by decide) rfl rfl <| ok_aloadn (pc' := 464) i216_463 rfl rfl <| ?_
      refine ok_cc i216_464 rfl (cl_v o216 m13_298 na137 rfl rfl (bt rfl) (bt rfl) rfl (by rw [(ShYard_k0 hW.1.y), o137])) ln137 (pd137 (aR O)) <| (Ok.deep (y137_0 hW.1 hW.2.1 hw2) (by omega)).mono (fun o9 g41q M41q p41q => ?_)
      obtain ⟨rfl, eg41q, em41q⟩ := p41q
      rw [eg41q, em41q]
      refine kt_v (pc' := 467) rfl <| ok_fload (pc' := 469) i216_467 rfl rfl <| ok_fcmp0 (pc' := 470) i216_469 nf0 rfl <| ok_kz0 (pc1 := 477) (pc2 := 473) i216_470 (by decide) rfl rfl <| ok_iconst (pc' := 474) i216_473 rfl <| ok_goto (pc' := 478) i216_474 rfl <| ok_iretz i216_478 rt216 (by decide) <| ?_
      exact hret
    · rw [show nulR A.R (r34 s 1 2) = A.R (r34 s 1 2) from nulR_1 u3]
      have z5 : 0 ≤ (r34 s 1 2) ∧ (r34 s 1 2) < s 3 := by omega
      refine ok_ifnn0 (pc1 := 445) i216_438 (Or.inl (Nat.le_trans (by decide) (hY.gr.rr (r34 s 1 2) (by omega) (by omega)).2.1.1)) rfl <| ok_aload (pc' := 447) i216_445 rfl rfl <| ok_getfi (v := (r34 s 1 2)) (pc' := 450) i216_447 o216 gi13_253 ((hY.gr.rr (r34 s 1 2) (by omega) (by omega)).2.2) ((hY.mr.rn (r34 s 1 2) (by omega) (by omega))) rfl <| ok_cnes (pc1 := 477) (pc2 := 453) i216_450 rfl rfl <| ok_aloadn (pc' := 454) i216_453 rfl rfl <| ?_
      refine ok_cc i216_454 rfl (cl_v o216 m13_294 na136 rfl rfl (bt rfl) (bt rfl) rfl (by rw [(ShYard_k0 hW.1.y), o136])) ln136 (pd136 (aR O)) <| (Ok.deep (y136_1 hW.1 hW.2.1 hw) (by omega)).mono (fun o9 g42q M42q p42q => ?_)
      obtain ⟨rfl, eg42q, em42q⟩ := p42q
      rw [eg42q, em42q]
      refine kt_v (pc' := 457) rfl <| ok_dload (pc' := 459) i216_457 rfl rfl <| ok_dcmp0 (pc' := 460) i216_459 (ddq_nn hw) rfl <| ok_kz0 (pc1 := 477) (pc2 := 463) i216_460 (by decide) rfl rfl <| ok_aloadn (pc' := 464) i216_463 rfl rfl <| ?_
      refine ok_cc i216_464 rfl (cl_v o216 m13_298 na137 rfl rfl (bt rfl) (bt rfl) rfl (by rw [(ShYard_k0 hW.1.y), o137])) ln137 (pd137 (aR O)) <| (Ok.deep (y137_0 hW.1 hW.2.1 hw2) (by omega)).mono (fun o9 g43q M43q p43q => ?_)
      obtain ⟨rfl, eg43q, em43q⟩ := p43q
      rw [eg43q, em43q]
      refine kt_v (pc' := 467) rfl <| ok_fload (pc' := 469) i216_467 rfl rfl <| ok_fcmp0 (pc' := 470) i216_469 nf0 rfl <| ok_kz0 (pc1 := 477) (pc2 := 473) i216_470 (by decide) rfl rfl <| ok_iconst (pc' := 474) i216_473 rfl <| ok_goto (pc' := 478) i216_474 rfl <| ok_iretz i216_478 rt216 (by decide) <| ?_
      exact hret
  · rw [show nulR A.D (r218 s 0) = A.D (r218 s 0) from nulR_1 u1]
    have z6 : 0 ≤ (r218 s 0) ∧ (r218 s 0) < s 4 := by omega
    refine ok_ifnn0 (pc1 := 424) i216_417 (Or.inl (Nat.le_trans (by decide) (hY.gr.dd (r218 s 0) (by omega) (by omega)).2.1.1)) rfl <| ok_aload (pc' := 426) i216_424 rfl rfl <| ok_getfi (v := (r218 s 0)) (pc' := 429) i216_426 o216 gi13_247 ((hY.gr.dd (r218 s 0) (by omega) (by omega)).2.2) ((hY.mr.dn (r218 s 0) (by omega) (by omega))) rfl <| ok_cnes (pc1 := 477) (pc2 := 432) i216_429 rfl rfl <| ok_aloadn (pc' := 433) i216_432 rfl rfl <| ?_
    refine ok_cc i216_433 rfl (cl_v o216 m13_291 na117 rfl rfl (bt rfl) (bt rfl) rfl (by rw [(ShYard_k0 hW.1.y), o117])) ln117 (pd117 (aR O)) <| (Ok.deep (y117 (Y := O) (P := O + 38) (A := O + 49) (V := O + 73) (T := O + 74) (K := O + 100) (H := O + 102) (X := O + 346) hW.1.y hW.1.w hW.1.p hW.1.s hW.2.1.p hW.2.1.s hQ hV hW.2.1.l) (by omega)).mono (fun o9 g44q M44q p44q => ?_)
    obtain ⟨rfl, eg44q, em44q⟩ := p44q
    rw [eg44q, em44q]
    rw [← r23_34]
    refine kt_v (pc' := 436) rfl <| ok_aload (pc' := 438) i216_436 rfl rfl <| ?_
    by_cases u7 : (r34 s 1 2) = -1
    · rw [show nulR A.R (r34 s 1 2) = 0 by rw [u7, nulR_0]]
      refine ok_ifnn1 (pc1 := 441) i216_438 (by decide) rfl <| ok_iconst (pc' := 442) i216_441 rfl <| ok_goto (pc' := 450) i216_442 rfl <| ?_
      refine ok_cne (pc1 := 477) (pc2 := 453) i216_450 (by omega) rfl rfl (fun h9 => by exfalso; omega) (fun h8 => ?_)
      refine ok_aloadn (pc' := 454) i216_453 rfl rfl <| ?_
      refine ok_cc i216_454 rfl (cl_v o216 m13_294 na136 rfl rfl (bt rfl) (bt rfl) rfl (by rw [(ShYard_k0 hW.1.y), o136])) ln136 (pd136 (aR O)) <| (Ok.deep (y136_1 hW.1 hW.2.1 hw) (by omega)).mono (fun o9 g45q M45q p45q => ?_)
      obtain ⟨rfl, eg45q, em45q⟩ := p45q
      rw [eg45q, em45q]
      refine kt_v (pc' := 457) rfl <| ok_dload (pc' := 459) i216_457 rfl rfl <| ok_dcmp0 (pc' := 460) i216_459 (ddq_nn hw) rfl <| ok_kz0 (pc1 := 477) (pc2 := 463) i216_460 (by decide) rfl rfl <| ok_aloadn (pc' := 464) i216_463 rfl rfl <| ?_
      refine ok_cc i216_464 rfl (cl_v o216 m13_298 na137 rfl rfl (bt rfl) (bt rfl) rfl (by rw [(ShYard_k0 hW.1.y), o137])) ln137 (pd137 (aR O)) <| (Ok.deep (y137_0 hW.1 hW.2.1 hw2) (by omega)).mono (fun o9 g46q M46q p46q => ?_)
      obtain ⟨rfl, eg46q, em46q⟩ := p46q
      rw [eg46q, em46q]
      refine kt_v (pc' := 467) rfl <| ok_fload (pc' := 469) i216_467 rfl rfl <| ok_fcmp0 (pc' := 470) i216_469 nf0 rfl <| ok_kz0 (pc1 := 477) (pc2 := 473) i216_470 (by decide) rfl rfl <| ok_iconst (pc' := 474) i216_473 rfl <| ok_goto (pc' := 478) i216_474 rfl <| ok_iretz i216_478 rt216 (by decide) <| ?_
      exact hret
    · rw [show nulR A.R (r34 s 1 2) = A.R (r34 s 1 2) from nulR_1 u7]
      have z9 : 0 ≤ (r34 s 1 2) ∧ (r34 s 1 2) < s 3 := by omega
      refine ok_ifnn0 (pc1 := 445) i216_438 (Or.inl (Nat.le_trans (by decide) (hY.gr.rr (r34 s 1 2) (by omega) (by omega)).2.1.1)) rfl <| ok_aload (pc' := 447) i216_445 rfl rfl <| ok_getfi (v := (r34 s 1 2)) (pc' := 450) i216_447 o216 gi13_253 ((hY.gr.rr (r34 s 1 2) (by omega) (by omega)).2.2) ((hY.mr.rn (r34 s 1 2) (by omega) (by omega))) rfl <| ok_cnes (pc1 := 477) (pc2 := 453) i216_450 rfl rfl <| ok_aloadn (pc' := 454) i216_453 rfl rfl <| ?_
      refine ok_cc i216_454 rfl (cl_v o216 m13_294 na136 rfl rfl (bt rfl) (bt rfl) rfl (by rw [(ShYard_k0 hW.1.y), o136])) ln136 (pd136 (aR O)) <| (Ok.deep (y136_1 hW.1 hW.2.1 hw) (by omega)).mono (fun o9 g47q M47q p47q => ?_)
      obtain ⟨rfl, eg47q, em47q⟩ := p47q
      rw [eg47q, em47q]
      refine kt_v (pc' := 457) rfl <| ok_dload (pc' := 459) i216_457 rfl rfl <| ok_dcmp0 (pc' := 460) i216_459 (ddq_nn hw) rfl <| ok_kz0 (pc1 := 477) (pc2 := 463) i216_460 (by decide) rfl rfl <| ok_aloadn (pc' := 464) i216_463 rfl rfl <| ?_
      refine ok_cc i216_464 rfl (cl_v o216 m13_298 na137 rfl rfl (bt rfl) (bt rfl) rfl (by rw [(ShYard_k0 hW.1.y), o137])) ln137 (pd137 (aR O)) <| (Ok.deep (y137_0 hW.1 hW.2.1 hw2) (by omega)).mono (fun o9 g48q M48q p48q => ?_)
      obtain ⟨rfl, eg48q, em48q⟩ := p48q
      rw [eg48q, em48q]
      refine kt_v (pc' := 467) rfl <| ok_fload (pc' := 469) i216_467 rfl rfl <| ok_fcmp0 (pc' := 470) i216_469 nf0 rfl <| ok_kz0 (pc1 := 477) (pc2 := 473) i216_470 (by decide) rfl rfl <| ok_iconst (pc' := 474) i216_473 rfl <| ok_goto (pc' := 478) i216_474 rfl <| ok_iretz i216_478 rt216 (by decide) <| ?_
      exact hret
theorem w216_308_3 {g : AG} {M : AM} {O : Nat} {A : YA} {s q : Int → Int} {b : Int} {d : Nat} {Q : AO → AG → AM → Prop} {w11 : AV} (hY : Yd g M O A s q) (hW : CW g M O b q s) (hw11 : am_cat w11 = 1) (hw : wr (s 11) ≠ 0) (hw2 : wr (((s 13) + (s 7)) + (s 8)) ≠ 0) (hfo : (-1 ≤ (r218 s 0) ∧ ((r218 s 0) = -1 ∨ (0 ≤ (r218 s 0) ∧ (r218 s 0) < s 4)) ∧ ((r218 s 0) < s 4 ∨ (r218 s 0) = -1))) (hH6 : (-1 ≤ (r34 s 1 2) ∧ ((r34 s 1 2) = -1 ∨ (0 ≤ (r34 s 1 2) ∧ (r34 s 1 2) < s 3)) ∧ ((r34 s 1 2) < s 3 ∨ (r34 s 1 2) = -1))) (hret : Q (.inl (some (aI 1))) g M) : Ok (d + 12) 216 308 [aR O, aR 101, aI (r18 s), aI (r19 s), aI (itv (f219_13 s) 0 0 ((s 4).toNat)), aI (r21 s), aI (itv (f215_13 s) 0 0 ((s 3).toNat)), aI (itv (f216_13 s q) 0 0 ((s 3).toNat)), aR (nulR A.D (r218 s 0)), aR (nulR A.R (r34 s 1 2)), aI 201, w11, aU, aU] [] g M Q := by
  have hV := hW.2.1.v
  have hQ := V_q hV
  have y3 := V_3 hV
  have y4 := V_4 hV
  have y5 := V_5 hV
  have yq0 := Q_0 hQ
  have yq1 := Q_1 hQ
  refine ok_aloadn (pc' := 309) i216_308 rfl rfl <| ok_getfr (r := 110) (pc' := 312) i216_309 o216 gr13_164 (hY.gr.ky) (hY.gr.r7) rfl <| ok_iconst (pc' := 313) i216_312 rfl <| ok_iaload (v := (s 11)) (pc' := 314) i216_313 (hY.gr.ka) (by decide) (hY.gr.la) (by decide) ((Yd.acz hY (i := 5) (z := 11) (by omega) (by omega) (by omega))) rfl <| ?_
  refine ok_znew (pc1 := 321) (pc2 := 317) i216_314 rfl rfl (fun _ => ?_) (fun h9 => by first | exact absurd hw h9 | exact absurd h9 hw)
  refine ok_aloadn (pc' := 322) i216_321 rfl rfl <| ok_getfr (r := 110) (pc' := 325) i216_322 o216 gr13_164 (hY.gr.ky) (hY.gr.r7) rfl <| ok_iconst (pc' := 326) i216_325 rfl <| ok_iaload (v := (s 9)) (pc' := 327) i216_326 (hY.gr.ka) (by decide) (hY.gr.la) (by decide) ((Yd.acz hY (i := 3) (z := 9) (by omega) (by omega) (by omega))) rfl <| ok_i2d (pc' := 328) i216_327 rfl <| ok_aloadn (pc' := 329) i216_328 rfl rfl <| ok_getfr (r := 110) (pc' := 332) i216_329 o216 gr13_164 (hY.gr.ky) (hY.gr.r7) rfl <| ok_iconst (pc' := 333) i216_332 rfl <| ?_
  refine ok_iaload (v := (s 11)) (pc' := 334) i216_333 (hY.gr.ka) (by decide) (hY.gr.la) (by decide) ((Yd.acz hY (i := 5) (z := 11) (by omega) (by omega) (by omega))) rfl <| ok_i2d (pc' := 335) i216_334 rfl <| ok_ddivq (pc' := 336) i216_335 hw rfl <| ok_dstore (pc' := 338) (ls' := [aR O, aR 101, aI (r18 s), aI (r19 s), aI (itv (f219_13 s) 0 0 ((s 4).toNat)), aI (r21 s), aI (itv (f215_13 s) 0 0 ((s 3).toNat)), aI (itv (f216_13 s q) 0 0 ((s 3).toNat)), aR (nulR A.D (r218 s 0)), aR (nulR A.R (r34 s 1 2)), aD (ddq (s 9) (s 11)), aU, aU, aU]) i216_336 (bt rfl) rfl rfl <| ok_aloadn (pc' := 339) i216_338 rfl rfl <| ok_getfr (r := 110) (pc' := 342) i216_339 o216 gr13_164 (hY.gr.ky) (hY.gr.r7) rfl <| ok_bipush (v := 7) (pc' := 344) i216_342 rfl rfl <| ok_iaload (v := (s 13)) (pc' := 345) i216_344 (hY.gr.ka) (by decide) (hY.gr.la) (by decide) ((Yd.acz hY (i := 7) (z := 13) (by omega) (by omega) (by omega))) rfl <| ?_
  refine ok_aloadn (pc' := 346) i216_345 rfl rfl <| ok_getfr (r := 110) (pc' := 349) i216_346 o216 gr13_164 (hY.gr.ky) (hY.gr.r7) rfl <| ok_iconst (pc' := 350) i216_349 rfl <| ok_iaload (v := (s 7)) (pc' := 351) i216_350 (hY.gr.ka) (by decide) (hY.gr.la) (by decide) ((Yd.acz hY (i := 1) (z := 7) (by omega) (by omega) (by omega))) rfl <| ok_iadd (v := ((s 13) + (s 7))) (pc' := 352) i216_351 rfl rfl <| ok_aloadn (pc' := 353) i216_352 rfl rfl <| ok_getfr (r := 110) (pc' := 356) i216_353 o216 gr13_164 (hY.gr.ky) (hY.gr.r7) rfl <| ok_iconst (pc' := 357) i216_356 rfl <| ?_
  refine ok_iaload (v := (s 8)) (pc' := 358) i216_357 (hY.gr.ka) (by decide) (hY.gr.la) (by decide) ((Yd.acz hY (i := 2) (z := 8) (by omega) (by omega) (by omega))) rfl <| ok_iadd (v := (((s 13) + (s 7)) + (s 8))) (pc' := 359) i216_358 rfl rfl <| ok_istore (pc' := 361) (ls' := [aR O, aR 101, aI (r18 s), aI (r19 s), aI (itv (f219_13 s) 0 0 ((s 4).toNat)), aI (r21 s), aI (itv (f215_13 s) 0 0 ((s 3).toNat)), aI (itv (f216_13 s q) 0 0 ((s 3).toNat)), aR (nulR A.D (r218 s 0)), aR (nulR A.R (r34 s 1 2)), aD (ddq (s 9) (s 11)), aU, aI (((s 13) + (s 7)) + (s 8)), aU]) i216_359 (bt rfl) rfl rfl <| ok_iload (pc' := 363) i216_361 rfl rfl <| ?_
  refine ok_znew (pc1 := 370) (pc2 := 366) i216_363 rfl rfl (fun _ => ?_) (fun h9 => by first | exact absurd hw2 h9 | exact absurd h9 hw2)
  refine ok_aloadn (pc' := 371) i216_370 rfl rfl <| ok_getfr (r := 110) (pc' := 374) i216_371 o216 gr13_164 (hY.gr.ky) (hY.gr.r7) rfl <| ok_bipush (v := 7) (pc' := 376) i216_374 rfl rfl <| ok_iaload (v := (s 13)) (pc' := 377) i216_376 (hY.gr.ka) (by decide) (hY.gr.la) (by decide) ((Yd.acz hY (i := 7) (z := 13) (by omega) (by omega) (by omega))) rfl <| ok_i2f (pc' := 378) i216_377 rfl <| ok_iload (pc' := 380) i216_378 rfl rfl <| ok_i2f (pc' := 381) i216_380 rfl <| ok_fdivq (pc' := 382) i216_381 hw2 rfl <| ?_
  refine ok_fstore (pc' := 384) (ls' := [aR O, aR 101, aI (r18 s), aI (r19 s), aI (itv (f219_13 s) 0 0 ((s 4).toNat)), aI (r21 s), aI (itv (f215_13 s) 0 0 ((s 3).toNat)), aI (itv (f216_13 s q) 0 0 ((s 3).toNat)), aR (nulR A.D (r218 s 0)), aR (nulR A.R (r34 s 1 2)), aD (ddq (s 9) (s 11)), aU, aI (((s 13) + (s 7)) + (s 8)), aF (fdq (s 13) (((s 13) + (s 7)) + (s 8)))]) i216_382 (bt rfl) rfl rfl <| ok_aloadn (pc' := 385) i216_384 rfl rfl <| ?_
  refine ok_cc i216_385 rfl (cl_v o216 m13_279 na118 rfl rfl (bt rfl) (bt rfl) rfl (by rw [(ShYard_k0 hW.1.y), o118])) ln118 (pd118 (aR O)) <| (Ok.deep (y118 (Y := O) (P := O + 38) (A := O + 49) (V := O + 73) (T := O + 74) (K := O + 100) (H := O + 102) (X := O + 346) hW.1.y hW.1.w hW.1.p hW.1.s hW.2.1.p hW.2.1.s hQ hV hW.2.1.l) (by omega)).mono (fun o9 g49q M49q p49q => ?_)
  obtain ⟨rfl, eg49q, em49q⟩ := p49q
  rw [eg49q, em49q]
  refine kt_v (pc' := 388) rfl <| ok_iload (pc' := 390) i216_388 rfl rfl <| ok_cnes (pc1 := 477) (pc2 := 393) i216_390 rfl rfl <| ok_aloadn (pc' := 394) i216_393 rfl rfl <| ?_
  refine ok_cc i216_394 rfl (cl_v o216 m13_282 na119 rfl rfl (bt rfl) (bt rfl) rfl (by rw [(ShYard_k0 hW.1.y), o119])) ln119 (pd119 (aR O)) <| (Ok.deep (y119 (Y := O) (P := O + 38) (A := O + 49) (V := O + 73) (T := O + 74) (K := O + 100) (H := O + 102) (X := O + 346) hW.1.y hW.1.w hW.1.p hW.1.s hW.2.1.p hW.2.1.s hQ hV hW.2.1.l) (by omega)).mono (fun o9 g50q M50q p50q => ?_)
  obtain ⟨rfl, eg50q, em50q⟩ := p50q
  rw [eg50q, em50q]
  refine kt_v (pc' := 397) rfl <| ok_iload (pc' := 399) i216_397 rfl rfl <| ok_cnes (pc1 := 477) (pc2 := 402) i216_399 rfl rfl <| ok_aloadn (pc' := 403) i216_402 rfl rfl <| ?_
  refine ok_cc i216_403 rfl (cl_v o216 m13_285 na121 rfl rfl (bt rfl) (bt rfl) rfl (by rw [(ShYard_k0 hW.1.y), o121])) ln121 (pd121 (aR O)) <| (Ok.deep (y121 (Y := O) (P := O + 38) (A := O + 49) (V := O + 73) (T := O + 74) (K := O + 100) (H := O + 102) (X := O + 346) hW.1.y hW.1.w hW.1.p hW.1.s hW.2.1.p hW.2.1.s hQ hV hW.2.1.l) (by omega)).mono (fun o9 g51q M51q p51q => ?_)
  obtain ⟨rfl, eg51q, em51q⟩ := p51q
  rw [eg51q, em51q]
  refine kt_v (pc' := 406) rfl <| ok_iload (pc' := 408) i216_406 rfl rfl <| ok_cnes (pc1 := 477) (pc2 := 411) i216_408 rfl rfl <| ok_aloadn (pc' := 412) i216_411 rfl rfl <| ?_
  refine ok_cc i216_412 rfl (cl_v o216 m13_288 na120 rfl rfl (bt rfl) (bt rfl) rfl (by rw [(ShYard_k0 hW.1.y), o120])) ln120 (pd120 (aR O)) <| (Ok.deep (y120 (Y := O) (P := O + 38) (A := O + 49) (V := O + 73) (T := O + 74) (K := O + 100) (H := O + 102) (X := O + 346) hW.1.y hW.1.w hW.1.p hW.1.s hW.2.1.p hW.2.1.s hQ hV hW.2.1.l) (by omega)).mono (fun o9 g52q M52q p52q => ?_)
  obtain ⟨rfl, eg52q, em52q⟩ := p52q
  rw [eg52q, em52q]
  rw [← r24_218 hV]
  refine kt_v (pc' := 415) rfl <| ok_aload (pc' := 417) i216_415 rfl rfl <| ?_
  by_cases u1 : (r218 s 0) = -1
  · rw [show nulR A.D (r218 s 0) = 0 by rw [u1, nulR_0]]
    refine ok_ifnn1 (pc1 := 420) i216_417 (by decide) rfl <| ok_iconst (pc' := 421) i216_420 rfl <| ok_goto (pc' := 429) i216_421 rfl <| ?_
    refine ok_cne (pc1 := 477) (pc2 := 432) i216_429 (by omega) rfl rfl (fun h9 => by exfalso; omega) (fun h2 => ?_)
    refine ok_aloadn (pc' := 433) i216_432 rfl rfl <| ?_
    refine ok_cc i216_433 rfl (cl_v o216 m13_291 na117 rfl rfl (bt rfl) (bt rfl) rfl (by rw [(ShYard_k0 hW.1.y), o117])) ln117 (pd117 (aR O)) <| (Ok.deep (y117 (Y := O) (P := O + 38) (A := O + 49) (V := O + 73) (T := O + 74) (K := O + 100) (H := O + 102) (X := O + 346) hW.1.y hW.1.w hW.1.p hW.1.s hW.2.1.p hW.2.1.s hQ hV hW.2.1.l) (by omega)).mono (fun o9 g53q M53q p53q => ?_)
    obtain ⟨rfl, eg53q, em53q⟩ := p53q
    rw [eg53q, em53q]
    rw [← r23_34]
    refine kt_v (pc' := 436) rfl <| ok_aload (pc' := 438) i216_436 rfl rfl <| ?_
    by_cases u3 : (r34 s 1 2) = -1
    · rw [show nulR A.R (r34 s 1 2) = 0 by rw [u3, nulR_0]]
      refine ok_ifnn1 (pc1 := 441) i216_438 (by decide) rfl <| ok_iconst (pc' := 442) i216_441 rfl <| ok_goto (pc' := 450) i216_442 rfl <| ?_
      refine ok_cne (pc1 := 477) (pc2 := 453) i216_450 (by omega) rfl rfl (fun h9 => by exfalso; omega) (fun h4 => ?_)
      refine ok_aloadn (pc' := 454) i216_453 rfl rfl <| ?_
      refine ok_cc i216_454 rfl (cl_v o216 m13_294 na136 rfl rfl (bt rfl) (bt rfl) rfl (by rw [(ShYard_k0 hW.1.y), o136])) ln136 (pd136 (aR O)) <| (Ok.deep (y136_1 hW.1 hW.2.1 hw) (by omega)).mono (fun o9 g54q M54q p54q => ?_)
      obtain ⟨rfl, eg54q, em54q⟩ := p54q
      rw [eg54q, em54q]
      refine kt_v (pc' := 457) rfl <| ok_dload (pc' := 459) i216_457 rfl rfl <| ok_dcmp0 (pc' := 460) i216_459 (ddq_nn hw) rfl <| ok_kz0 (pc1 := 477) (pc2 := 463) i216_460 (by decide) rfl rfl <| ok_aloadn (pc' := 464) i216_463 rfl rfl <| ?_
      refine ok_cc i216_464 rfl (cl_v o216 m13_298 na137 rfl rfl (bt rfl) (bt rfl) rfl (by rw [(ShYard_k0 hW.1.y), o137])) ln137 (pd137 (aR O)) <| (Ok.deep (y137_1 hW.1 hW.2.1 hw2) (by omega)).mono (fun o9 g55q M55q p55q => ?_)
      obtain ⟨rfl, eg55q, em55q⟩ := p55q
      rw [eg55q, em55q]
      refine kt_v (pc' := 467) rfl <| ok_fload (pc' := 469) i216_467 rfl rfl <| ok_fcmp0 (pc' := 470) i216_469 (fdq_nf hw2) rfl <| ok_kz0 (pc1 := 477) (pc2 := 473) i216_470 (by decide) rfl rfl <| ok_iconst (pc' := 474) i216_473 rfl <| ok_goto (pc' := 478) i216_474 rfl <| ok_iretz i216_478 rt216 (by decide) <| ?_
      exact hret
    · rw [show nulR A.R (r34 s 1 2) = A.R (r34 s 1 2) from nulR_1 u3]
      have z5 : 0 ≤ (r34 s 1 2) ∧ (r34 s 1 2) < s 3 := by omega
      refine ok_ifnn0 (pc1 := 445) i216_438 (Or.inl (Nat.le_trans (by decide) (hY.gr.rr (r34 s 1 2) (by omega) (by omega)).2.1.1)) rfl <| ok_aload (pc' := 447) i216_445 rfl rfl <| ok_getfi (v := (r34 s 1 2)) (pc' := 450) i216_447 o216 gi13_253 ((hY.gr.rr (r34 s 1 2) (by omega) (by omega)).2.2) ((hY.mr.rn (r34 s 1 2) (by omega) (by omega))) rfl <| ok_cnes (pc1 := 477) (pc2 := 453) i216_450 rfl rfl <| ok_aloadn (pc' := 454) i216_453 rfl rfl <| ?_
      refine ok_cc i216_454 rfl (cl_v o216 m13_294 na136 rfl rfl (bt rfl) (bt rfl) rfl (by rw [(ShYard_k0 hW.1.y), o136])) ln136 (pd136 (aR O)) <| (Ok.deep (y136_1 hW.1 hW.2.1 hw) (by omega)).mono (fun o9 g56q M56q p56q => ?_)
      obtain ⟨rfl, eg56q, em56q⟩ := p56q
      rw [eg56q, em56q]
      refine kt_v (pc' := 457) rfl <| ok_dload (pc' := 459) i216_457 rfl rfl <| ok_dcmp0 (pc' := 460) i216_459 (ddq_nn hw) rfl <| ok_kz0 (pc1 := 477) (pc2 := 463) i216_460 (by decide) rfl rfl <| ok_aloadn (pc' := 464) i216_463 rfl rfl <| ?_
      refine ok_cc i216_464 rfl (cl_v o216 m13_298 na137 rfl rfl (bt rfl) (bt rfl) rfl (by rw [(ShYard_k0 hW.1.y), o137])) ln137 (pd137 (aR O)) <| (Ok.deep (y137_1 hW.1 hW.2.1 hw2) (by omega)).mono (fun o9 g57q M57q p57q => ?_)
      obtain ⟨rfl, eg57q, em57q⟩ := p57q
      rw [eg57q, em57q]
      refine kt_v (pc' := 467) rfl <| ok_fload (pc' := 469) i216_467 rfl rfl <| ok_fcmp0 (pc' := 470) i216_469 (fdq_nf hw2) rfl <| ok_kz0 (pc1 := 477) (pc2 := 473) i216_470 (by decide) rfl rfl <| ok_iconst (pc' := 474) i216_473 rfl <| ok_goto (pc' := 478) i216_474 rfl <| ok_iretz i216_478 rt216 (by decide) <| ?_
      exact hret
  · rw [show nulR A.D (r218 s 0) = A.D (r218 s 0) from nulR_1 u1]
    have z6 : 0 ≤ (r218 s 0) ∧ (r218 s 0) < s 4 := by omega
    refine ok_ifnn0 (pc1 := 424) i216_417 (Or.inl (Nat.le_trans (by decide) (hY.gr.dd (r218 s 0) (by omega) (by omega)).2.1.1)) rfl <| ok_aload (pc' := 426) i216_424 rfl rfl <| ok_getfi (v := (r218 s 0)) (pc' := 429) i216_426 o216 gi13_247 ((hY.gr.dd (r218 s 0) (by omega) (by omega)).2.2) ((hY.mr.dn (r218 s 0) (by omega) (by omega))) rfl <| ok_cnes (pc1 := 477) (pc2 := 432) i216_429 rfl rfl <| ok_aloadn (pc' := 433) i216_432 rfl rfl <| ?_
    refine ok_cc i216_433 rfl (cl_v o216 m13_291 na117 rfl rfl (bt rfl) (bt rfl) rfl (by rw [(ShYard_k0 hW.1.y), o117])) ln117 (pd117 (aR O)) <| (Ok.deep (y117 (Y := O) (P := O + 38) (A := O + 49) (V := O + 73) (T := O + 74) (K := O + 100) (H := O + 102) (X := O + 346) hW.1.y hW.1.w hW.1.p hW.1.s hW.2.1.p hW.2.1.s hQ hV hW.2.1.l) (by omega)).mono (fun o9 g58q M58q p58q => ?_)
    obtain ⟨rfl, eg58q, em58q⟩ := p58q
    rw [eg58q, em58q]
    rw [← r23_34]
    refine kt_v (pc' := 436) rfl <| ok_aload (pc' := 438) i216_436 rfl rfl <| ?_
    by_cases u7 : (r34 s 1 2) = -1
    · rw [show nulR A.R (r34 s 1 2) = 0 by rw [u7, nulR_0]]
      refine ok_ifnn1 (pc1 := 441) i216_438 (by decide) rfl <| ok_iconst (pc' := 442) i216_441 rfl <| ok_goto (pc' := 450) i216_442 rfl <| ?_
      refine ok_cne (pc1 := 477) (pc2 := 453) i216_450 (by omega) rfl rfl (fun h9 => by exfalso; omega) (fun h8 => ?_)
      refine ok_aloadn (pc' := 454) i216_453 rfl rfl <| ?_
      refine ok_cc i216_454 rfl (cl_v o216 m13_294 na136 rfl rfl (bt rfl) (bt rfl) rfl (by rw [(ShYard_k0 hW.1.y), o136])) ln136 (pd136 (aR O)) <| (Ok.deep (y136_1 hW.1 hW.2.1 hw) (by omega)).mono (fun o9 g59q M59q p59q => ?_)
      obtain ⟨rfl, eg59q, em59q⟩ := p59q
      rw [eg59q, em59q]
      refine kt_v (pc' := 457) rfl <| ok_dload (pc' := 459) i216_457 rfl rfl <| ok_dcmp0 (pc' := 460) i216_459 (ddq_nn hw) rfl <| ok_kz0 (pc1 := 477) (pc2 := 463) i216_460 (by decide) rfl rfl <| ok_aloadn (pc' := 464) i216_463 rfl rfl <| ?_
      refine ok_cc i216_464 rfl (cl_v o216 m13_298 na137 rfl rfl (bt rfl) (bt rfl) rfl (by rw [(ShYard_k0 hW.1.y), o137])) ln137 (pd137 (aR O)) <| (Ok.deep (y137_1 hW.1 hW.2.1 hw2) (by omega)).mono (fun o9 g60q M60q p60q => ?_)
      obtain ⟨rfl, eg60q, em60q⟩ := p60q
      rw [eg60q, em60q]
      refine kt_v (pc' := 467) rfl <| ok_fload (pc' := 469) i216_467 rfl rfl <| ok_fcmp0 (pc' := 470) i216_469 (fdq_nf hw2) rfl <| ok_kz0 (pc1 := 477) (pc2 := 473) i216_470 (by decide) rfl rfl <| ok_iconst (pc' := 474) i216_473 rfl <| ok_goto (pc' := 478) i216_474 rfl <| ok_iretz i216_478 rt216 (by decide) <| ?_
      exact hret
    · rw [show nulR A.R (r34 s 1 2) = A.R (r34 s 1 2) from nulR_1 u7]
      have z9 : 0 ≤ (r34 s 1 2) ∧ (r34 s 1 2) < s 3 := by omega
      refine ok_ifnn0 (pc1 := 445) i216_438 (Or.inl (Nat.le_trans (by decide) (hY.gr.rr (r34 s 1 2) (by omega) (by omega)).2.1.1)) rfl <| ok_aload (pc' := 447) i216_445 rfl rfl <| ok_getfi (v := (r34 s 1 2)) (pc' := 450) i216_447 o216 gi13_253 ((hY.gr.rr (r34 s 1 2) (by omega) (by omega)).2.2) ((hY.mr.rn (r34 s 1 2) (by omega) (by omega))) rfl <| ok_cnes (pc1 := 477) (pc2 := 453) i216_450 rfl rfl <| ok_aloadn (pc' := 454) i216_453 rfl rfl <| ?_
      refine ok_cc i216_454 rfl (cl_v o216 m13_294 na136 rfl rfl (bt rfl) (bt rfl) rfl (by rw [(ShYard_k0 hW.1.y), o136])) ln136 (pd136 (aR O)) <| (Ok.deep (y136_1 hW.1 hW.2.1 hw) (by omega)).mono (fun o9 g61q M61q p61q => ?_)
      obtain ⟨rfl, eg61q, em61q⟩ := p61q
      rw [eg61q, em61q]
      refine kt_v (pc' := 457) rfl <| ok_dload (pc' := 459) i216_457 rfl rfl <| ok_dcmp0 (pc' := 460) i216_459 (ddq_nn hw) rfl <| ok_kz0 (pc1 := 477) (pc2 := 463) i216_460 (by decide) rfl rfl <| ok_aloadn (pc' := 464) i216_463 rfl rfl <| ?_
      refine ok_cc i216_464 rfl (cl_v o216 m13_298 na137 rfl rfl (bt rfl) (bt rfl) rfl (by rw [(ShYard_k0 hW.1.y), o137])) ln137 (pd137 (aR O)) <| (Ok.deep (y137_1 hW.1 hW.2.1 hw2) (by omega)).mono (fun o9 g62q M62q p62q => ?_)
      obtain ⟨rfl, eg62q, em62q⟩ := p62q
      rw [eg62q, em62q]
      refine kt_v (pc' := 467) rfl <| ok_fload (pc' := 469) i216_467 rfl rfl <| ok_fcmp0 (pc' := 470) i216_469 (fdq_nf hw2) rfl <| ok_kz0 (pc1 := 477) (pc2 := 473) i216_470 (by decide) rfl rfl <| ok_iconst (pc' := 474) i216_473 rfl <| ok_goto (pc' := 478) i216_474 rfl <| ok_iretz i216_478 rt216 (by decide) <| ?_
      exact hret
/-- the sums -/
theorem t216 {g : AG} {M : AM} {O : Nat} {A : YA} {s q : Int → Int} {b : Int} (hY : Yd g M O A s q) (hW : CW g M O b q s) (h542 : s 542 = 0) : Ok 12 216 0 [aR O, aR 101, aU, aU, aU, aU, aU, aU, aU, aU, aU, aU, aU, aU] [] g M (fun o g1 M1 => o = .inl (some (aI 1)) ∧ Fr FN 1 1 g M g1 M1 ∧ Yd g1 M1 O A s q ∧ CW g1 M1 O b q s) := by
  refine ok_iconst (pc' := 1) i216_0 rfl <| ok_istoren (pc' := 2) (ls' := [aR O, aR 101, aI 0, aU, aU, aU, aU, aU, aU, aU, aU, aU, aU, aU]) i216_1 (bt rfl) rfl rfl <| ok_iconst (pc' := 3) i216_2 rfl <| ok_istoren (pc' := 4) (ls' := [aR O, aR 101, aI 0, aI 0, aU, aU, aU, aU, aU, aU, aU, aU, aU, aU]) i216_3 (bt rfl) rfl rfl <| ok_iconst (pc' := 5) i216_4 rfl <| ok_istore (pc' := 7) (ls' := [aR O, aR 101, aI 0, aI 0, aI 0, aU, aU, aU, aU, aU, aU, aU, aU, aU]) i216_5 (bt rfl) rfl rfl <| ok_iconst (pc' := 8) i216_7 rfl <| ok_istore (pc' := 10) (ls' := [aR O, aR 101, aI 0, aI 0, aI 0, aI 0, aU, aU, aU, aU, aU, aU, aU, aU]) i216_8 (bt rfl) rfl rfl <| ?_
  refine ok_iconst (pc' := 11) i216_10 rfl <| ok_istore (pc' := 13) (ls' := [aR O, aR 101, aI 0, aI 0, aI 0, aI 0, aI 0, aU, aU, aU, aU, aU, aU, aU]) i216_11 (bt rfl) rfl rfl <| ok_iconst (pc' := 14) i216_13 rfl <| ok_istore (pc' := 16) (ls' := [aR O, aR 101, aI 0, aI 0, aI 0, aI 0, aI 0, aI 0, aU, aU, aU, aU, aU, aU]) i216_14 (bt rfl) rfl rfl <| ok_iconst (pc' := 17) i216_16 rfl <| ok_istore (pc' := 19) (ls' := [aR O, aR 101, aI 0, aI 0, aI 0, aI 0, aI 0, aI 0, aI 0, aU, aU, aU, aU, aU]) i216_17 (bt rfl) rfl rfl <| ?_
  refine w216_19 (d := 0) hY hW ?_
  refine ok_iconst (pc' := 104) i216_103 rfl <| ok_istore (pc' := 106) (ls' := [aR O, aR 101, aI (r18 s), aI 0, aI 0, aI 0, aI (itv (f215_13 s) 0 0 ((s 3).toNat)), aI (itv (f216_13 s q) 0 0 ((s 3).toNat)), aI 0, aU, aU, aU, aU, aU]) i216_104 (bt rfl) rfl rfl <| ?_
  refine w216_106 (d := 0) hY hW ?_
  refine ok_aloadn (pc' := 179) i216_178 rfl rfl <| ok_getfr (r := 109) (pc' := 182) i216_179 o216 gr13_219 (hY.gr.ky) (hY.gr.r6) rfl <| ok_astore (pc' := 184) (ls' := [aR O, aR 101, aI (r18 s), aI (r19 s), aI (itv (f219_13 s) 0 0 ((s 4).toNat)), aI 0, aI (itv (f215_13 s) 0 0 ((s 3).toNat)), aI (itv (f216_13 s q) 0 0 ((s 3).toNat)), aR 109, aU, aU, aU, aU, aU]) i216_182 (bt rfl) rfl rfl <| ok_aload (pc' := 186) i216_184 rfl rfl <| ok_arrlen (v := 201) (pc' := 187) i216_186 (hY.gr.k9) (by decide) (by rw [hY.gr.l9] <;> rfl) rfl <| ok_istore (pc' := 189) (ls' := [aR O, aR 101, aI (r18 s), aI (r19 s), aI (itv (f219_13 s) 0 0 ((s 4).toNat)), aI 0, aI (itv (f215_13 s) 0 0 ((s 3).toNat)), aI (itv (f216_13 s q) 0 0 ((s 3).toNat)), aR 109, aI 201, aU, aU, aU, aU]) i216_187 (bt rfl) rfl rfl <| ok_iconst (pc' := 190) i216_189 rfl <| ok_istore (pc' := 192) (ls' := [aR O, aR 101, aI (r18 s), aI (r19 s), aI (itv (f219_13 s) 0 0 ((s 4).toNat)), aI 0, aI (itv (f215_13 s) 0 0 ((s 3).toNat)), aI (itv (f216_13 s q) 0 0 ((s 3).toNat)), aR 109, aI 201, aI 0, aU, aU, aU]) i216_190 (bt rfl) rfl rfl <| ?_
  refine w216_192 (d := 0) hY hW h542 (fun w11 hw11 => ?_)
  refine w216_219 (d := 0) hY hW hw11 (fun g1 M1 hY1 hW1 f1 hfo hH6 => ?_)
  by_cases hw : wr (s 11) = 0 <;> by_cases hw2 : wr (((s 13) + (s 7)) + (s 8)) = 0
  · exact w216_308_0 (d := 0) hY1 hW1 hw11 hw hw2 hfo hH6 ⟨rfl, f1, hY1, hW1⟩
  · exact w216_308_1 (d := 0) hY1 hW1 hw11 hw hw2 hfo hH6 ⟨rfl, f1, hY1, hW1⟩
  · exact w216_308_2 (d := 0) hY1 hW1 hw11 hw hw2 hfo hH6 ⟨rfl, f1, hY1, hW1⟩
  · exact w216_308_3 (d := 0) hY1 hW1 hw11 hw hw2 hfo hH6 ⟨rfl, f1, hY1, hW1⟩
