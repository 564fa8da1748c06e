/-! THE LAW'S CHANGES (by program, wip/p60/gen) -/
theorem o207 : am_oc 207 = 17 := by decide +kernel
theorem m17_170 : am_mlk 17 170 0 204 = true := by decide +kernel
theorem na204 : am_na 204 = 3 := by decide +kernel
theorem nl204 : am_nL 204 = 4 := by decide +kernel
theorem pd204 : ∀ a0 a1 a2 a3 : AV, am_pad 204 [a0, a1, a2, a3] = [a0, a1, a2, a3] := by intros; unfold am_pad; rw [nl204]; rfl
theorem ln204 : 4 ≤ am_nL 204 := by rw [nl204]; decide
theorem o204 : am_oc 204 = 17 := by decide +kernel
theorem gr17_47 : am_gfr 17 47 17 7 = true := by decide +kernel
theorem gr17_22 : am_gfr 17 22 17 1 = true := by decide +kernel
theorem gi17_151 : am_gfi 17 151 16 1 = true := by decide +kernel
theorem rt204 : am_rt 204 = none := by decide +kernel
theorem pi207_154 : am_pfi 207 17 154 16 2 = true := by decide +kernel
theorem pi207_160 : am_pfi 207 17 160 16 3 = true := by decide +kernel
theorem rt207 : am_rt 207 = some .int := by decide +kernel
theorem o203 : am_oc 203 = 17 := by decide +kernel
theorem m17_155 : am_mlk 17 155 7 0 = true := by decide +kernel
theorem pi203_154 : am_pfi 203 17 154 16 2 = true := by decide +kernel
theorem pi203_160 : am_pfi 203 17 160 16 3 = true := by decide +kernel
theorem gi17_163 : am_gfi 17 163 16 4 = true := by decide +kernel
theorem pi203_163 : am_pfi 203 17 163 16 4 = true := by decide +kernel
theorem pz203_166 : am_pfz 203 17 166 16 5 = true := by decide +kernel
theorem m17_174 : am_mlk 17 174 0 205 = true := by decide +kernel
theorem na205 : am_na 205 = 1 := by decide +kernel
theorem nl205 : am_nL 205 = 5 := by decide +kernel
theorem pd205 : ∀ a0 a1 : AV, am_pad 205 [a0, a1] = [a0, a1, aU, aU, aU] := by intros; unfold am_pad; rw [nl205]; rfl
theorem ln205 : 2 ≤ am_nL 205 := by rw [nl205]; decide
theorem gr17_44 : am_gfr 17 44 17 6 = true := by decide +kernel
theorem m17_130 : am_mlk 17 130 0 198 = true := by decide +kernel
theorem na198 : am_na 198 = 1 := by decide +kernel
theorem nl198 : am_nL 198 = 3 := by decide +kernel
theorem pd198 : ∀ a0 a1 : AV, am_pad 198 [a0, a1] = [a0, a1, aU] := by intros; unfold am_pad; rw [nl198]; rfl
theorem ln198 : 2 ≤ am_nL 198 := by rw [nl198]; decide
theorem o198 : am_oc 198 = 17 := by decide +kernel
theorem gi17_103 : am_gfi 17 103 17 13 = true := by decide +kernel
theorem pi198_127 : am_pfi 198 17 127 15 5 = true := by decide +kernel
theorem gi17_139 : am_gfi 17 139 15 7 = true := by decide +kernel
theorem pi198_139 : am_pfi 198 17 139 15 7 = true := by decide +kernel
theorem gi17_142 : am_gfi 17 142 15 6 = true := by decide +kernel
theorem pi198_142 : am_pfi 198 17 142 15 6 = true := by decide +kernel
theorem gi17_145 : am_gfi 17 145 15 3 = true := by decide +kernel
theorem rt198 : am_rt 198 = none := by decide +kernel
theorem gi17_133 : am_gfi 17 133 15 0 = true := by decide +kernel
theorem gi17_106 : am_gfi 17 106 17 12 = true := by decide +kernel
theorem pi203_106 : am_pfi 203 17 106 17 12 = true := by decide +kernel
theorem rt203 : am_rt 203 = some .int := by decide +kernel
theorem gr17_29 : am_gfr 17 29 17 3 = true := by decide +kernel
theorem gi17_178 : am_gfi 17 178 16 0 = true := by decide +kernel
theorem t207 {g : AG} {M : AM} {O : Nat} {A : YA} {s q : Int → Int} {b : Int} {k : Int} (hY : Yd g M O A s q) (hV : Val b q s) (hk : 0 ≤ k ∧ k < s 3) : Ok 1 207 0 [aR 101, aR (A.R k), aU] [] g M (fun o g1 M1 => o = .inl (some (aI (s (94 + k)))) ∧ g1 = g ∧ Yd g M1 O A (scrA q s k) q ∧ Fr (FY O) 0 0 g M g M1) := by
  have hQ := V_q hV
  have y3 := V_3 hV
  have y4 := V_4 hV
  have y5 := V_5 hV
  have yq0 := Q_0 hQ
  have yq1 := Q_1 hQ
  have zk := V_d0 hV hk.1 hk.2
  have zl := V_d1 hV hk.1 hk.2
  have e0 : Fr (FY O) 0 0 g M g M := Fr.rfl
  refine ok_aloadn (pc' := 1) i207_0 rfl rfl <| ok_getfi (v := (s (94 + k))) (pc' := 4) i207_1 o207 gi17_154 ((hY.gr.rr k (by omega) (by omega)).2.2) ((Yd.r2 hY (k := k) (by omega) (by omega))) rfl <| ok_istoren (pc' := 5) (ls' := [aR 101, aR (A.R k), aI (s (94 + k))]) i207_4 (bt rfl) rfl rfl <| ok_aloadn (pc' := 6) i207_5 rfl rfl <| ok_aloadn (pc' := 7) i207_6 rfl rfl <| ok_iloadn (pc' := 8) i207_7 rfl rfl <| ok_iconst (pc' := 9) i207_8 rfl <| ok_cc i207_9 rfl (cl_v o207 m17_170 na204 rfl rfl (bt rfl) (bt rfl) rfl (by rw [hY.gr.ky, o204])) ln204 (pd204 (aR 101) (aR (A.R k)) (aI (s (94 + k))) (aI 2)) <| ?_
  refine ok_aloadn (pc' := 1) i204_0 rfl rfl <| ok_getfr (r := 110) (pc' := 4) i204_1 o204 gr17_47 (hY.gr.ky) (hY.gr.r7) rfl <| ok_iloadn (pc' := 5) i204_4 rfl rfl <| ok_dup2 (pc' := 6) i204_5 ⟨rfl, rfl⟩ rfl <| ok_iaload (v := (s 8)) (pc' := 7) i204_6 (hY.gr.ka) (by decide) (hY.gr.la) (by decide) ((Yd.acz hY (i := 2) (z := 8) (by omega) (by omega) (by omega))) rfl <| ok_iloadn (pc' := 8) i204_7 rfl rfl <| ok_iadd (v := ((s 8) + (s (94 + k)))) (pc' := 9) i204_8 rfl rfl <| ok_iastore (pc' := 10) i204_9 (hY.gr.ka) (hY.gr.la) (by decide) rfl <| ?_
  have hY1 := Yd.waz hY (i := 2) (z := 8) (v := ((s 8) + (s (94 + k)))) (by omega) (by omega) (by omega)
  have e2 := frw e0 (fy_110 hY.gr.o) hY1
  have n3 : (upI s 8 ((s 8) + (s (94 + k)))) 3 = s 3 := upI_ne (by omega)
  have n4 : (upI s 8 ((s 8) + (s (94 + k)))) 4 = s 4 := upI_ne (by omega)
  have n5 : (upI s 8 ((s 8) + (s (94 + k)))) 5 = s 5 := upI_ne (by omega)
  refine ok_aloadn (pc' := 11) i204_10 rfl rfl <| ok_getfr (r := 110) (pc' := 14) i204_11 o204 gr17_47 (hY1.gr.ky) (hY1.gr.r7) rfl <| ok_iconst (pc' := 15) i204_14 rfl <| ok_dup2 (pc' := 16) i204_15 ⟨rfl, rfl⟩ rfl <| ok_iaload (v := (s 9)) (pc' := 17) i204_16 (hY1.gr.ka) (by decide) (hY1.gr.la) (by decide) ((Eq.trans (Yd.acz hY1 (i := 3) (z := 9) (by omega) (by omega) (by omega)) (by rw [upI_ne (by omega)]))) rfl <| ok_iloadn (pc' := 18) i204_17 rfl rfl <| ok_aloadn (pc' := 19) i204_18 rfl rfl <| ok_getfr (r := 104) (pc' := 22) i204_19 o204 gr17_22 (hY1.gr.ky) (hY1.gr.r1) rfl <| ?_
  refine ok_aloadn (pc' := 23) i204_22 rfl rfl <| ok_getfi (v := (s (14 + k))) (pc' := 26) i204_23 o204 gi17_151 ((hY1.gr.rr k (by omega) (by omega)).2.2) ((Eq.trans (Yd.r1 hY1 (k := k) (by omega) (by omega)) (by rw [upI_ne (by omega)]))) rfl <| ok_aaload (r := (A.K (s (14 + k)))) (pc' := 27) i204_26 (hY1.gr.k4) (by decide) (hY1.gr.l4) (by omega) ((hY1.gr.kk (s (14 + k)) (by omega) (by omega)).1) rfl <| ok_iconst (pc' := 28) i204_27 rfl <| ?_
  have z6 : 1 ≤ q (6 + (s (14 + k))) ∧ q (6 + (s (14 + k))) ≤ 99 := Q_6 hQ (by omega) (by omega)
  refine ok_iaload (v := (q (6 + (s (14 + k))))) (pc' := 29) i204_28 ((hY1.gr.kk (s (14 + k)) (by omega) (by omega)).2.2.1) (by decide) ((hY1.gr.kk (s (14 + k)) (by omega) (by omega)).2.2.2) (by decide) ((hY1.mr.kk (s (14 + k)) (by omega) (by omega)).2) rfl <| ok_imul (v := ((s (94 + k)) * (q (6 + (s (14 + k)))))) (pc' := 30) i204_29 rfl rfl <| ok_iadd (v := ((s 9) + ((s (94 + k)) * (q (6 + (s (14 + k))))))) (pc' := 31) i204_30 rfl rfl <| ok_iastore (pc' := 32) i204_31 (hY1.gr.ka) (hY1.gr.la) (by decide) rfl <| ?_
  have hY7 := Yd.waz hY1 (i := 3) (z := 9) (v := ((s 9) + ((s (94 + k)) * (q (6 + (s (14 + k))))))) (by omega) (by omega) (by omega)
  have e8 := frw e2 (fy_110 hY1.gr.o) hY7
  have n9 : (upI (upI s 8 ((s 8) + (s (94 + k)))) 9 ((s 9) + ((s (94 + k)) * (q (6 + (s (14 + k))))))) 3 = s 3 := (upI_ne (by omega)).trans n3
  have n10 : (upI (upI s 8 ((s 8) + (s (94 + k)))) 9 ((s 9) + ((s (94 + k)) * (q (6 + (s (14 + k))))))) 4 = s 4 := (upI_ne (by omega)).trans n4
  have n11 : (upI (upI s 8 ((s 8) + (s (94 + k)))) 9 ((s 9) + ((s (94 + k)) * (q (6 + (s (14 + k))))))) 5 = s 5 := (upI_ne (by omega)).trans n5
  refine ok_vret i204_32 rt204 <| kt_0 (pc' := 12) rfl <| ok_aloadn (pc' := 13) i207_12 rfl rfl <| ok_iconst (pc' := 14) i207_13 rfl <| ok_putfj (kk := 2) (pc' := 17) i207_14 o207 pi207_154 ((hY7.gr.rr k (by omega) (by omega)).2.2) rfl rfl <| ?_
  have hY12 := Yd.wr2 hY7 (k := k) (v := 0) (by omega) (by omega)
  have e13 := frw e8 (hY7.gr.rr k (by omega) (by omega)).2.1.fy hY12
  have n14 : (upI (upI (upI s 8 ((s 8) + (s (94 + k)))) 9 ((s 9) + ((s (94 + k)) * (q (6 + (s (14 + k))))))) (94 + k) 0) 3 = s 3 := (upI_ne (by omega)).trans n9
  have n15 : (upI (upI (upI s 8 ((s 8) + (s (94 + k)))) 9 ((s 9) + ((s (94 + k)) * (q (6 + (s (14 + k))))))) (94 + k) 0) 4 = s 4 := (upI_ne (by omega)).trans n10
  have n16 : (upI (upI (upI s 8 ((s 8) + (s (94 + k)))) 9 ((s 9) + ((s (94 + k)) * (q (6 + (s (14 + k))))))) (94 + k) 0) 5 = s 5 := (upI_ne (by omega)).trans n11
  refine ok_aloadn (pc' := 18) i207_17 rfl rfl <| ok_iconst (pc' := 19) i207_18 rfl <| ok_putfj (kk := 3) (pc' := 22) i207_19 o207 pi207_160 ((hY12.gr.rr k (by omega) (by omega)).2.2) rfl rfl <| ?_
  have hY17 := Yd.wr3 hY12 (k := k) (v := 2) (by omega) (by omega)
  have e18 := frw e13 (hY12.gr.rr k (by omega) (by omega)).2.1.fy hY17
  have n19 : (upI (upI (upI (upI s 8 ((s 8) + (s (94 + k)))) 9 ((s 9) + ((s (94 + k)) * (q (6 + (s (14 + k))))))) (94 + k) 0) (174 + k) 2) 3 = s 3 := (upI_ne (by omega)).trans n14
  have n20 : (upI (upI (upI (upI s 8 ((s 8) + (s (94 + k)))) 9 ((s 9) + ((s (94 + k)) * (q (6 + (s (14 + k))))))) (94 + k) 0) (174 + k) 2) 4 = s 4 := (upI_ne (by omega)).trans n15
  have n21 : (upI (upI (upI (upI s 8 ((s 8) + (s (94 + k)))) 9 ((s 9) + ((s (94 + k)) * (q (6 + (s (14 + k))))))) (94 + k) 0) (174 + k) 2) 5 = s 5 := (upI_ne (by omega)).trans n16
  refine ok_iloadn (pc' := 23) i207_22 rfl rfl <| ok_ireti i207_23 rt207 <| ?_
  exact ⟨rfl, rfl, hY17, e18⟩
theorem V_cutA {b : Int} {q s : Int → Int} (hV : Val b q s) {r x : Int} (hr : 0 ≤ r ∧ r < s 3) (hx : 1 ≤ x ∧ x ≤ s (94 + r)) : Val b q (cutA q s r x) := by
  have y3 := V_3 hV
  have y4 := V_4 hV
  have y1 := V_1 hV
  have hr8 : 0 ≤ r ∧ r < 80 := by omega
  have e : ∀ k : Int, k ≠ 7 ∧ k ≠ 9 ∧ k ≠ 11 ∧ k ≠ 13 → k ≠ 94 + r ∧ k ≠ 174 + r ∧ k ≠ 254 + r ∧ k ≠ 334 + r → cutA q s r x k = s k := fun k h1 h2 => cutA_rd hr8 h1 h2
  refine ⟨hV.1, by rw [e 0 (by omega) (by omega)]; exact hV.2.1, by rw [e 1 (by omega) (by omega)]; exact y1, by rw [e 2 (by omega) (by omega)]; exact V_2 hV, by rw [e 3 (by omega) (by omega)]; exact y3, by rw [e 4 (by omega) (by omega)]; exact y4, by rw [e 5 (by omega) (by omega)]; exact V_5 hV, ?_, ?_, ?_, V_q hV⟩
  · intro i h0 h1
    rw [e 3 (by omega) (by omega)] at h1
    have hi := hV.2.2.2.2.2.2.2.1 i h0 h1
    have hl : 0 ≤ lftS s r x ∧ lftS s r x ≤ s (94 + r) := by unfold lftS; omega
    have c1 : cutA q s r x (14 + i) = s (14 + i) := e _ (by omega) (by omega)
    have c2 : cutA q s r x (94 + i) = (if i = r then lftS s r x else s (94 + i)) := by unfold cutA; simp only [upI]; grind (splits := 40)
    have c3 : cutA q s r x (174 + i) = (if i = r then (if lftS s r x = 0 then 1 else 0) else s (174 + i)) := by unfold cutA; simp only [upI]; grind (splits := 40)
    have c4 : cutA q s r x (334 + i) = (if i = r then 1 else s (334 + i)) := by unfold cutA; simp only [upI]; grind (splits := 40)
    unfold RodV at hi ⊢
    rw [c1, c2, c3, c4]
    grind (splits := 40)
  · intro o h0 h1
    rw [e 4 (by omega) (by omega)] at h1
    have hi := hV.2.2.2.2.2.2.2.2.1 o h0 h1
    unfold OrdV at hi ⊢
    rw [e (414 + 8 * o) (by omega) (by omega), e (414 + 8 * o + 1) (by omega) (by omega), e (414 + 8 * o + 2) (by omega) (by omega), e (414 + 8 * o + 3) (by omega) (by omega), e (414 + 8 * o + 4) (by omega) (by omega), e (414 + 8 * o + 5) (by omega) (by omega), e (414 + 8 * o + 6) (by omega) (by omega), e (414 + 8 * o + 7) (by omega) (by omega)]
    exact hi
  · intro l h0 h1
    rw [e (542 + l) (by omega) (by omega)]
    exact hV.2.2.2.2.2.2.2.2.2.1 l h0 h1
theorem r218_congr {s t : Int → Int} {x : Int} (h4 : t 4 = s 4) (h : ∀ j : Int, 414 ≤ j → j < 542 → t j = s j) (l4 : s 4 ≤ 16) (l0 : 0 ≤ s 4) : r218 t x = r218 s x := by
  unfold r218 k218
  rw [h4]
  refine itv_eq (fun _ a => -1 ≤ a ∧ a < 16) ⟨by omega, by omega⟩ _ (fun i a h0 h1 ha => ⟨?_, ?_⟩)
  · unfold f218
    rw [h ((414 + (8 * i)) + 4) (by omega) (by omega), h (414 + (8 * i)) (by omega) (by omega), h ((414 + (8 * i)) + 3) (by omega) (by omega)]
    by_cases ha1 : a = -1
    · simp only [ha1, if_true]
    · rw [h ((414 + (8 * a)) + 3) (by omega) (by omega)]
  · unfold f218
    (repeat' split) <;> omega
theorem cut_eq {q s : Int → Int} {k x sv : Int} (hk : 0 ≤ k) (hx : 1 ≤ x ∧ x ≤ s (94 + k)) (h1 : 0 ≤ s 1 ∧ s 1 ≤ 9) (hs : sv = if s (94 + k) - (x + (min (s 1) ((s (94 + k)) - x))) = 0 then 1 else 0) : (upI (upI (upI (upI (upI (upI (upI (upI s (94 + k) ((s (94 + k)) - (x + (min (s 1) ((s (94 + k)) - x))))) (174 + k) sv) (254 + k) ((s (254 + k)) + 1)) (334 + k) 1) 7 ((s 7) + (min (s 1) ((s (94 + k)) - x)))) 9 ((s 9) + ((min (s 1) ((s (94 + k)) - x)) * (q (6 + (s (14 + k))))))) 11 ((s 11) + 1)) 13 ((s 13) + x)) = cutA q s k x := by
  have e1 : (min (s 1) ((s (94 + k)) - x)) = (s (94 + k) - x) - lftS s k x := by unfold lftS; omega
  have e2 : s (94 + k) - (x + ((s (94 + k) - x) - lftS s k x)) = lftS s k x := by omega
  rw [e1, e2] at hs
  rw [hs, e1, e2]
  rw [upI_comm (a := 334 + k) (b := 7) (by omega), upI_comm (a := 254 + k) (b := 7) (by omega), upI_comm (a := 174 + k) (b := 7) (by omega), upI_comm (a := 94 + k) (b := 7) (by omega)]
  rw [upI_comm (a := 334 + k) (b := 9) (by omega), upI_comm (a := 254 + k) (b := 9) (by omega), upI_comm (a := 174 + k) (b := 9) (by omega), upI_comm (a := 94 + k) (b := 9) (by omega)]
  rfl
theorem w203_85 {g : AG} {M : AM} {O : Nat} {A : YA} {s q : Int → Int} {b : Int} {k x : Int} {Q : AO → AG → AM → Prop} (hY : Yd g M O A s q) (hV : Val b q s) (hk : 0 ≤ k ∧ k < s 3) (hx : 1 ≤ x ∧ x ≤ s (94 + k)) (K : ∀ M1 : AM, Yd g M1 O A (cutA q s k x) q → Fr (FY O) 0 0 g M g M1 → Ok 1 203 85 [aR 101, aR (A.R k), aI x, aI (min (s 1) ((s (94 + k)) - x)), aU, aU] [] g M1 Q) : Ok 1 203 0 [aR 101, aR (A.R k), aI x, aU, aU, aU] [] g M Q := by
  have hQ := V_q hV
  have y3 := V_3 hV
  have y4 := V_4 hV
  have y5 := V_5 hV
  have yq0 := Q_0 hQ
  have yq1 := Q_1 hQ
  have zk := V_d0 hV hk.1 hk.2
  have zl := V_d1 hV hk.1 hk.2
  have hl1 := V_1 hV
  have e0 : Fr (FY O) 0 0 g M g M := Fr.rfl
  refine ok_aloadn (pc' := 1) i203_0 rfl rfl <| ok_getfi (v := (s 1)) (pc' := 4) i203_1 o203 gi17_56 (hY.gr.ky) ((Yd.n1 hY)) rfl <| ok_aloadn (pc' := 5) i203_4 rfl rfl <| ok_getfi (v := (s (94 + k))) (pc' := 8) i203_5 o203 gi17_154 ((hY.gr.rr k (by omega) (by omega)).2.2) ((Yd.r2 hY (k := k) (by omega) (by omega))) rfl <| ok_iloadn (pc' := 9) i203_8 rfl rfl <| ok_isub (v := ((s (94 + k)) - x)) (pc' := 10) i203_9 rfl rfl <| ok_min (v := (min (s 1) ((s (94 + k)) - x))) (pc' := 13) i203_10 o203 m17_155 (by omega) (bt rfl) rfl rfl <| ?_
  have z1 : (min (s 1) ((s (94 + k)) - x)) ≤ (s 1) ∧ (min (s 1) ((s (94 + k)) - x)) ≤ ((s (94 + k)) - x) := by omega
  have z2 : 0 ≤ (min (s 1) ((s (94 + k)) - x)) := by omega
  refine ok_istoren (pc' := 14) (ls' := [aR 101, aR (A.R k), aI x, aI (min (s 1) ((s (94 + k)) - x)), aU, aU]) i203_13 (bt rfl) rfl rfl <| ok_aloadn (pc' := 15) i203_14 rfl rfl <| ok_dup (pc' := 16) i203_15 rfl rfl <| ok_getfi (v := (s (94 + k))) (pc' := 19) i203_16 o203 gi17_154 ((hY.gr.rr k (by omega) (by omega)).2.2) ((Yd.r2 hY (k := k) (by omega) (by omega))) rfl <| ok_iloadn (pc' := 20) i203_19 rfl rfl <| ok_iloadn (pc' := 21) i203_20 rfl rfl <| ok_iadd (v := (x + (min (s 1) ((s (94 + k)) - x)))) (pc' := 22) i203_21 rfl rfl <| ok_isub (v := ((s (94 + k)) - (x + (min (s 1) ((s (94 + k)) - x))))) (pc' := 23) i203_22 rfl rfl <| ?_
  refine ok_putfj (kk := 2) (pc' := 26) i203_23 o203 pi203_154 ((hY.gr.rr k (by omega) (by omega)).2.2) rfl rfl <| ?_
  have hY3 := Yd.wr2 hY (k := k) (v := ((s (94 + k)) - (x + (min (s 1) ((s (94 + k)) - x))))) (by omega) (by omega)
  have e4 := frw e0 (hY.gr.rr k (by omega) (by omega)).2.1.fy hY3
  have n5 : (upI s (94 + k) ((s (94 + k)) - (x + (min (s 1) ((s (94 + k)) - x))))) 3 = s 3 := upI_ne (by omega)
  have n6 : (upI s (94 + k) ((s (94 + k)) - (x + (min (s 1) ((s (94 + k)) - x))))) 4 = s 4 := upI_ne (by omega)
  have n7 : (upI s (94 + k) ((s (94 + k)) - (x + (min (s 1) ((s (94 + k)) - x))))) 5 = s 5 := upI_ne (by omega)
  refine ok_aloadn (pc' := 27) i203_26 rfl rfl <| ok_aloadn (pc' := 28) i203_27 rfl rfl <| ok_getfi (v := ((s (94 + k)) - (x + (min (s 1) ((s (94 + k)) - x))))) (pc' := 31) i203_28 o203 gi17_154 ((hY3.gr.rr k (by omega) (by omega)).2.2) ((Eq.trans (Yd.r2 hY3 (k := k) (by omega) (by omega)) (by rw [upI_eq]))) rfl <| ?_
  refine ok_zne (pc1 := 38) (pc2 := 34) i203_31 (by omega) rfl rfl (fun h8 => ?_) (fun h8 => ?_)
  · refine ok_iconst (pc' := 39) i203_38 rfl <| ok_putfj (kk := 3) (pc' := 42) i203_39 o203 pi203_160 ((hY3.gr.rr k (by omega) (by omega)).2.2) rfl rfl <| ?_
    have hY9 := Yd.wr3 hY3 (k := k) (v := 0) (by omega) (by omega)
    have e10 := frw e4 (hY3.gr.rr k (by omega) (by omega)).2.1.fy hY9
    have n11 : (upI (upI s (94 + k) ((s (94 + k)) - (x + (min (s 1) ((s (94 + k)) - x))))) (174 + k) 0) 3 = s 3 := (upI_ne (by omega)).trans n5
    have n12 : (upI (upI s (94 + k) ((s (94 + k)) - (x + (min (s 1) ((s (94 + k)) - x))))) (174 + k) 0) 4 = s 4 := (upI_ne (by omega)).trans n6
    have n13 : (upI (upI s (94 + k) ((s (94 + k)) - (x + (min (s 1) ((s (94 + k)) - x))))) (174 + k) 0) 5 = s 5 := (upI_ne (by omega)).trans n7
    refine ok_aloadn (pc' := 43) i203_42 rfl rfl <| ok_dup (pc' := 44) i203_43 rfl rfl <| ok_getfi (v := (s (254 + k))) (pc' := 47) i203_44 o203 gi17_163 ((hY9.gr.rr k (by omega) (by omega)).2.2) ((Eq.trans (Yd.r4 hY9 (k := k) (by omega) (by omega)) (by rw [upI_ne (by omega), upI_ne (by omega)]))) rfl <| ok_iconst (pc' := 48) i203_47 rfl <| ok_iadd (v := ((s (254 + k)) + 1)) (pc' := 49) i203_48 rfl rfl <| ok_putfj (kk := 4) (pc' := 52) i203_49 o203 pi203_163 ((hY9.gr.rr k (by omega) (by omega)).2.2) rfl rfl <| ?_
    have hY14 := Yd.wr4 hY9 (k := k) (v := ((s (254 + k)) + 1)) (by omega) (by omega)
    have e15 := frw e10 (hY9.gr.rr k (by omega) (by omega)).2.1.fy hY14
    have n16 : (upI (upI (upI s (94 + k) ((s (94 + k)) - (x + (min (s 1) ((s (94 + k)) - x))))) (174 + k) 0) (254 + k) ((s (254 + k)) + 1)) 3 = s 3 := (upI_ne (by omega)).trans n11
    have n17 : (upI (upI (upI s (94 + k) ((s (94 + k)) - (x + (min (s 1) ((s (94 + k)) - x))))) (174 + k) 0) (254 + k) ((s (254 + k)) + 1)) 4 = s 4 := (upI_ne (by omega)).trans n12
    have n18 : (upI (upI (upI s (94 + k) ((s (94 + k)) - (x + (min (s 1) ((s (94 + k)) - x))))) (174 + k) 0) (254 + k) ((s (254 + k)) + 1)) 5 = s 5 := (upI_ne (by omega)).trans n13
    refine ok_aloadn (pc' := 53) i203_52 rfl rfl <| ok_iconst (pc' := 54) i203_53 rfl <| ok_putzj (kk := 5) (pc' := 57) i203_54 o203 pz203_166 ((hY14.gr.rr k (by omega) (by omega)).2.2) (by omega) rfl rfl <| ?_
    have hY19 := Yd.wr5 hY14 (k := k) (v := 1) (by omega) (by omega)
    have e20 := frw e15 (hY14.gr.rr k (by omega) (by omega)).2.1.fy hY19
    have n21 : (upI (upI (upI (upI s (94 + k) ((s (94 + k)) - (x + (min (s 1) ((s (94 + k)) - x))))) (174 + k) 0) (254 + k) ((s (254 + k)) + 1)) (334 + k) 1) 3 = s 3 := (upI_ne (by omega)).trans n16
    have n22 : (upI (upI (upI (upI s (94 + k) ((s (94 + k)) - (x + (min (s 1) ((s (94 + k)) - x))))) (174 + k) 0) (254 + k) ((s (254 + k)) + 1)) (334 + k) 1) 4 = s 4 := (upI_ne (by omega)).trans n17
    have n23 : (upI (upI (upI (upI s (94 + k) ((s (94 + k)) - (x + (min (s 1) ((s (94 + k)) - x))))) (174 + k) 0) (254 + k) ((s (254 + k)) + 1)) (334 + k) 1) 5 = s 5 := (upI_ne (by omega)).trans n18
    refine ok_aloadn (pc' := 58) i203_57 rfl rfl <| ok_aloadn (pc' := 59) i203_58 rfl rfl <| ok_iloadn (pc' := 60) i203_59 rfl rfl <| ok_iconst (pc' := 61) i203_60 rfl <| ok_cc i203_61 rfl (cl_v o203 m17_170 na204 rfl rfl (bt rfl) (bt rfl) rfl (by rw [hY19.gr.ky, o204])) ln204 (pd204 (aR 101) (aR (A.R k)) (aI (min (s 1) ((s (94 + k)) - x))) (aI 1)) <| ok_aloadn (pc' := 1) i204_0 rfl rfl <| ok_getfr (r := 110) (pc' := 4) i204_1 o204 gr17_47 (hY19.gr.ky) (hY19.gr.r7) rfl <| ok_iloadn (pc' := 5) i204_4 rfl rfl <| ?_
    refine ok_dup2 (pc' := 6) i204_5 ⟨rfl, rfl⟩ rfl <| ok_iaload (v := (s 7)) (pc' := 7) i204_6 (hY19.gr.ka) (by decide) (hY19.gr.la) (by decide) ((Eq.trans (Yd.acz hY19 (i := 1) (z := 7) (by omega) (by omega) (by omega)) (by rw [upI_ne (by omega), upI_ne (by omega), upI_ne (by omega), upI_ne (by omega)]))) rfl <| ok_iloadn (pc' := 8) i204_7 rfl rfl <| ok_iadd (v := ((s 7) + (min (s 1) ((s (94 + k)) - x)))) (pc' := 9) i204_8 rfl rfl <| ok_iastore (pc' := 10) i204_9 (hY19.gr.ka) (hY19.gr.la) (by decide) rfl <| ?_
    have hY24 := Yd.waz hY19 (i := 1) (z := 7) (v := ((s 7) + (min (s 1) ((s (94 + k)) - x)))) (by omega) (by omega) (by omega)
    have e25 := frw e20 (fy_110 hY19.gr.o) hY24
    have n26 : (upI (upI (upI (upI (upI s (94 + k) ((s (94 + k)) - (x + (min (s 1) ((s (94 + k)) - x))))) (174 + k) 0) (254 + k) ((s (254 + k)) + 1)) (334 + k) 1) 7 ((s 7) + (min (s 1) ((s (94 + k)) - x)))) 3 = s 3 := (upI_ne (by omega)).trans n21
    have n27 : (upI (upI (upI (upI (upI s (94 + k) ((s (94 + k)) - (x + (min (s 1) ((s (94 + k)) - x))))) (174 + k) 0) (254 + k) ((s (254 + k)) + 1)) (334 + k) 1) 7 ((s 7) + (min (s 1) ((s (94 + k)) - x)))) 4 = s 4 := (upI_ne (by omega)).trans n22
    have n28 : (upI (upI (upI (upI (upI s (94 + k) ((s (94 + k)) - (x + (min (s 1) ((s (94 + k)) - x))))) (174 + k) 0) (254 + k) ((s (254 + k)) + 1)) (334 + k) 1) 7 ((s 7) + (min (s 1) ((s (94 + k)) - x)))) 5 = s 5 := (upI_ne (by omega)).trans n23
    refine ok_aloadn (pc' := 11) i204_10 rfl rfl <| ok_getfr (r := 110) (pc' := 14) i204_11 o204 gr17_47 (hY24.gr.ky) (hY24.gr.r7) rfl <| ok_iconst (pc' := 15) i204_14 rfl <| ok_dup2 (pc' := 16) i204_15 ⟨rfl, rfl⟩ rfl <| ok_iaload (v := (s 9)) (pc' := 17) i204_16 (hY24.gr.ka) (by decide) (hY24.gr.la) (by decide) ((Eq.trans (Yd.acz hY24 (i := 3) (z := 9) (by omega) (by omega) (by omega)) (by rw [upI_ne (by omega), upI_ne (by omega), upI_ne (by omega), upI_ne (by omega), upI_ne (by omega)]))) rfl <| ok_iloadn (pc' := 18) i204_17 rfl rfl <| ok_aloadn (pc' := 19) i204_18 rfl rfl <| ok_getfr (r := 104) (pc' := 22) i204_19 o204 gr17_22 (hY24.gr.ky) (hY24.gr.r1) rfl <| ?_
    refine ok_aloadn (pc' := 23) i204_22 rfl rfl <| ok_getfi (v := (s (14 + k))) (pc' := 26) i204_23 o204 gi17_151 ((hY24.gr.rr k (by omega) (by omega)).2.2) ((Eq.trans (Yd.r1 hY24 (k := k) (by omega) (by omega)) (by rw [upI_ne (by omega), upI_ne (by omega), upI_ne (by omega), upI_ne (by omega), upI_ne (by omega)]))) rfl <| ok_aaload (r := (A.K (s (14 + k)))) (pc' := 27) i204_26 (hY24.gr.k4) (by decide) (hY24.gr.l4) (by omega) ((hY24.gr.kk (s (14 + k)) (by omega) (by omega)).1) rfl <| ok_iconst (pc' := 28) i204_27 rfl <| ?_
    have z29 : 1 ≤ q (6 + (s (14 + k))) ∧ q (6 + (s (14 + k))) ≤ 99 := Q_6 hQ (by omega) (by omega)
    refine ok_iaload (v := (q (6 + (s (14 + k))))) (pc' := 29) i204_28 ((hY24.gr.kk (s (14 + k)) (by omega) (by omega)).2.2.1) (by decide) ((hY24.gr.kk (s (14 + k)) (by omega) (by omega)).2.2.2) (by decide) ((hY24.mr.kk (s (14 + k)) (by omega) (by omega)).2) rfl <| ok_imul (v := ((min (s 1) ((s (94 + k)) - x)) * (q (6 + (s (14 + k)))))) (pc' := 30) i204_29 rfl rfl <| ok_iadd (v := ((s 9) + ((min (s 1) ((s (94 + k)) - x)) * (q (6 + (s (14 + k))))))) (pc' := 31) i204_30 rfl rfl <| ok_iastore (pc' := 32) i204_31 (hY24.gr.ka) (hY24.gr.la) (by decide) rfl <| ?_
    have hY30 := Yd.waz hY24 (i := 3) (z := 9) (v := ((s 9) + ((min (s 1) ((s (94 + k)) - x)) * (q (6 + (s (14 + k))))))) (by omega) (by omega) (by omega)
    have e31 := frw e25 (fy_110 hY24.gr.o) hY30
    have n32 : (upI (upI (upI (upI (upI (upI s (94 + k) ((s (94 + k)) - (x + (min (s 1) ((s (94 + k)) - x))))) (174 + k) 0) (254 + k) ((s (254 + k)) + 1)) (334 + k) 1) 7 ((s 7) + (min (s 1) ((s (94 + k)) - x)))) 9 ((s 9) + ((min (s 1) ((s (94 + k)) - x)) * (q (6 + (s (14 + k))))))) 3 = s 3 := (upI_ne (by omega)).trans n26
    have n33 : (upI (upI (upI (upI (upI (upI s (94 + k) ((s (94 + k)) - (x + (min (s 1) ((s (94 + k)) - x))))) (174 + k) 0) (254 + k) ((s (254 + k)) + 1)) (334 + k) 1) 7 ((s 7) + (min (s 1) ((s (94 + k)) - x)))) 9 ((s 9) + ((min (s 1) ((s (94 + k)) - x)) * (q (6 + (s (14 + k))))))) 4 = s 4 := (upI_ne (by omega)).trans n27
    have n34 : (upI (upI (upI (upI (upI (upI s (94 + k) ((s (94 + k)) - (x + (min (s 1) ((s (94 + k)) - x))))) (174 + k) 0) (254 + k) ((s (254 + k)) + 1)) (334 + k) 1) 7 ((s 7) + (min (s 1) ((s (94 + k)) - x)))) 9 ((s 9) + ((min (s 1) ((s (94 + k)) - x)) * (q (6 + (s (14 + k))))))) 5 = s 5 := (upI_ne (by omega)).trans n28
    refine ok_vret i204_32 rt204 <| kt_0 (pc' := 64) rfl <| ok_aloadn (pc' := 65) i203_64 rfl rfl <| ok_getfr (r := 110) (pc' := 68) i203_65 o203 gr17_47 (hY30.gr.ky) (hY30.gr.r7) rfl <| ok_iconst (pc' := 69) i203_68 rfl <| ok_dup2 (pc' := 70) i203_69 ⟨rfl, rfl⟩ rfl <| ok_iaload (v := (s 11)) (pc' := 71) i203_70 (hY30.gr.ka) (by decide) (hY30.gr.la) (by decide) ((Eq.trans (Yd.acz hY30 (i := 5) (z := 11) (by omega) (by omega) (by omega)) (by rw [upI_ne (by omega), upI_ne (by omega), upI_ne (by omega), upI_ne (by omega), upI_ne (by omega), upI_ne (by omega)]))) rfl <| ok_iconst (pc' := 72) i203_71 rfl <| ?_
    refine ok_iadd (v := ((s 11) + 1)) (pc' := 73) i203_72 rfl rfl <| ok_iastore (pc' := 74) i203_73 (hY30.gr.ka) (hY30.gr.la) (by decide) rfl <| ?_
    have hY35 := Yd.waz hY30 (i := 5) (z := 11) (v := ((s 11) + 1)) (by omega) (by omega) (by omega)
    have e36 := frw e31 (fy_110 hY30.gr.o) hY35
    have n37 : (upI (upI (upI (upI (upI (upI (upI s (94 + k) ((s (94 + k)) - (x + (min (s 1) ((s (94 + k)) - x))))) (174 + k) 0) (254 + k) ((s (254 + k)) + 1)) (334 + k) 1) 7 ((s 7) + (min (s 1) ((s (94 + k)) - x)))) 9 ((s 9) + ((min (s 1) ((s (94 + k)) - x)) * (q (6 + (s (14 + k))))))) 11 ((s 11) + 1)) 3 = s 3 := (upI_ne (by omega)).trans n32
    have n38 : (upI (upI (upI (upI (upI (upI (upI s (94 + k) ((s (94 + k)) - (x + (min (s 1) ((s (94 + k)) - x))))) (174 + k) 0) (254 + k) ((s (254 + k)) + 1)) (334 + k) 1) 7 ((s 7) + (min (s 1) ((s (94 + k)) - x)))) 9 ((s 9) + ((min (s 1) ((s (94 + k)) - x)) * (q (6 + (s (14 + k))))))) 11 ((s 11) + 1)) 4 = s 4 := (upI_ne (by omega)).trans n33
    have n39 : (upI (upI (upI (upI (upI (upI (upI s (94 + k) ((s (94 + k)) - (x + (min (s 1) ((s (94 + k)) - x))))) (174 + k) 0) (254 + k) ((s (254 + k)) + 1)) (334 + k) 1) 7 ((s 7) + (min (s 1) ((s (94 + k)) - x)))) 9 ((s 9) + ((min (s 1) ((s (94 + k)) - x)) * (q (6 + (s (14 + k))))))) 11 ((s 11) + 1)) 5 = s 5 := (upI_ne (by omega)).trans n34
    refine ok_aloadn (pc' := 75) i203_74 rfl rfl <| ok_getfr (r := 110) (pc' := 78) i203_75 o203 gr17_47 (hY35.gr.ky) (hY35.gr.r7) rfl <| ok_bipush (v := 7) (pc' := 80) i203_78 rfl rfl <| ok_dup2 (pc' := 81) i203_80 ⟨rfl, rfl⟩ rfl <| ok_iaload (v := (s 13)) (pc' := 82) i203_81 (hY35.gr.ka) (by decide) (hY35.gr.la) (by decide) ((Eq.trans (Yd.acz hY35 (i := 7) (z := 13) (by omega) (by omega) (by omega)) (by rw [upI_ne (by omega), upI_ne (by omega), upI_ne (by omega), upI_ne (by omega), upI_ne (by omega), upI_ne (by omega), upI_ne (by omega)]))) rfl <| ok_iloadn (pc' := 83) i203_82 rfl rfl <| ok_iadd (v := ((s 13) + x)) (pc' := 84) i203_83 rfl rfl <| ok_iastore (pc' := 85) i203_84 (hY35.gr.ka) (hY35.gr.la) (by decide) rfl <| ?_
    have hY40 := Yd.waz hY35 (i := 7) (z := 13) (v := ((s 13) + x)) (by omega) (by omega) (by omega)
    have e41 := frw e36 (fy_110 hY35.gr.o) hY40
    have n42 : (upI (upI (upI (upI (upI (upI (upI (upI s (94 + k) ((s (94 + k)) - (x + (min (s 1) ((s (94 + k)) - x))))) (174 + k) 0) (254 + k) ((s (254 + k)) + 1)) (334 + k) 1) 7 ((s 7) + (min (s 1) ((s (94 + k)) - x)))) 9 ((s 9) + ((min (s 1) ((s (94 + k)) - x)) * (q (6 + (s (14 + k))))))) 11 ((s 11) + 1)) 13 ((s 13) + x)) 3 = s 3 := (upI_ne (by omega)).trans n37
    have n43 : (upI (upI (upI (upI (upI (upI (upI (upI s (94 + k) ((s (94 + k)) - (x + (min (s 1) ((s (94 + k)) - x))))) (174 + k) 0) (254 + k) ((s (254 + k)) + 1)) (334 + k) 1) 7 ((s 7) + (min (s 1) ((s (94 + k)) - x)))) 9 ((s 9) + ((min (s 1) ((s (94 + k)) - x)) * (q (6 + (s (14 + k))))))) 11 ((s 11) + 1)) 13 ((s 13) + x)) 4 = s 4 := (upI_ne (by omega)).trans n38
    have n44 : (upI (upI (upI (upI (upI (upI (upI (upI s (94 + k) ((s (94 + k)) - (x + (min (s 1) ((s (94 + k)) - x))))) (174 + k) 0) (254 + k) ((s (254 + k)) + 1)) (334 + k) 1) 7 ((s 7) + (min (s 1) ((s (94 + k)) - x)))) 9 ((s 9) + ((min (s 1) ((s (94 + k)) - x)) * (q (6 + (s (14 + k))))))) 11 ((s 11) + 1)) 13 ((s 13) + x)) 5 = s 5 := (upI_ne (by omega)).trans n39
    exact K _ (Yd.ext hY40 (fun j => congrFun (cut_eq hk.1 hx hl1 (by split <;> omega)) j)) e41
  · refine ok_iconst (pc' := 35) i203_34 rfl <| ok_goto (pc' := 39) i203_35 rfl <| ok_putfj (kk := 3) (pc' := 42) i203_39 o203 pi203_160 ((hY3.gr.rr k (by omega) (by omega)).2.2) rfl rfl <| ?_
    have hY45 := Yd.wr3 hY3 (k := k) (v := 1) (by omega) (by omega)
    have e46 := frw e4 (hY3.gr.rr k (by omega) (by omega)).2.1.fy hY45
    have n47 : (upI (upI s (94 + k) ((s (94 + k)) - (x + (min (s 1) ((s (94 + k)) - x))))) (174 + k) 1) 3 = s 3 := (upI_ne (by omega)).trans n5
    have n48 : (upI (upI s (94 + k) ((s (94 + k)) - (x + (min (s 1) ((s (94 + k)) - x))))) (174 + k) 1) 4 = s 4 := (upI_ne (by omega)).trans n6
    have n49 : (upI (upI s (94 + k) ((s (94 + k)) - (x + (min (s 1) ((s (94 + k)) - x))))) (174 + k) 1) 5 = s 5 := (upI_ne (by omega)).trans n7
    refine ok_aloadn (pc' := 43) i203_42 rfl rfl <| ok_dup (pc' := 44) i203_43 rfl rfl <| ok_getfi (v := (s (254 + k))) (pc' := 47) i203_44 o203 gi17_163 ((hY45.gr.rr k (by omega) (by omega)).2.2) ((Eq.trans (Yd.r4 hY45 (k := k) (by omega) (by omega)) (by rw [upI_ne (by omega), upI_ne (by omega)]))) rfl <| ok_iconst (pc' := 48) i203_47 rfl <| ok_iadd (v := ((s (254 + k)) + 1)) (pc' := 49) i203_48 rfl rfl <| ok_putfj (kk := 4) (pc' := 52) i203_49 o203 pi203_163 ((hY45.gr.rr k (by omega) (by omega)).2.2) rfl rfl <| ?_
    have hY50 := Yd.wr4 hY45 (k := k) (v := ((s (254 + k)) + 1)) (by omega) (by omega)
    have e51 := frw e46 (hY45.gr.rr k (by omega) (by omega)).2.1.fy hY50
    have n52 : (upI (upI (upI s (94 + k) ((s (94 + k)) - (x + (min (s 1) ((s (94 + k)) - x))))) (174 + k) 1) (254 + k) ((s (254 + k)) + 1)) 3 = s 3 := (upI_ne (by omega)).trans n47
    have n53 : (upI (upI (upI s (94 + k) ((s (94 + k)) - (x + (min (s 1) ((s (94 + k)) - x))))) (174 + k) 1) (254 + k) ((s (254 + k)) + 1)) 4 = s 4 := (upI_ne (by omega)).trans n48
    have n54 : (upI (upI (upI s (94 + k) ((s (94 + k)) - (x + (min (s 1) ((s (94 + k)) - x))))) (174 + k) 1) (254 + k) ((s (254 + k)) + 1)) 5 = s 5 := (upI_ne (by omega)).trans n49
    refine ok_aloadn (pc' := 53) i203_52 rfl rfl <| ok_iconst (pc' := 54) i203_53 rfl <| ok_putzj (kk := 5) (pc' := 57) i203_54 o203 pz203_166 ((hY50.gr.rr k (by omega) (by omega)).2.2) (by omega) rfl rfl <| ?_
    have hY55 := Yd.wr5 hY50 (k := k) (v := 1) (by omega) (by omega)
    have e56 := frw e51 (hY50.gr.rr k (by omega) (by omega)).2.1.fy hY55
    have n57 : (upI (upI (upI (upI s (94 + k) ((s (94 + k)) - (x + (min (s 1) ((s (94 + k)) - x))))) (174 + k) 1) (254 + k) ((s (254 + k)) + 1)) (334 + k) 1) 3 = s 3 := (upI_ne (by omega)).trans n52
    have n58 : (upI (upI (upI (upI s (94 + k) ((s (94 + k)) - (x + (min (s 1) ((s (94 + k)) - x))))) (174 + k) 1) (254 + k) ((s (254 + k)) + 1)) (334 + k) 1) 4 = s 4 := (upI_ne (by omega)).trans n53
    have n59 : (upI (upI (upI (upI s (94 + k) ((s (94 + k)) - (x + (min (s 1) ((s (94 + k)) - x))))) (174 + k) 1) (254 + k) ((s (254 + k)) + 1)) (334 + k) 1) 5 = s 5 := (upI_ne (by omega)).trans n54
    refine ok_aloadn (pc' := 58) i203_57 rfl rfl <| ok_aloadn (pc' := 59) i203_58 rfl rfl <| ok_iloadn (pc' := 60) i203_59 rfl rfl <| ok_iconst (pc' := 61) i203_60 rfl <| ok_cc i203_61 rfl (cl_v o203 m17_170 na204 rfl rfl (bt rfl) (bt rfl) rfl (by rw [hY55.gr.ky, o204])) ln204 (pd204 (aR 101) (aR (A.R k)) (aI (min (s 1) ((s (94 + k)) - x))) (aI 1)) <| ok_aloadn (pc' := 1) i204_0 rfl rfl <| ok_getfr (r := 110) (pc' := 4) i204_1 o204 gr17_47 (hY55.gr.ky) (hY55.gr.r7) rfl <| ok_iloadn (pc' := 5) i204_4 rfl rfl <| ?_
    refine ok_dup2 (pc' := 6) i204_5 ⟨rfl, rfl⟩ rfl <| ok_iaload (v := (s 7)) (pc' := 7) i204_6 (hY55.gr.ka) (by decide) (hY55.gr.la) (by decide) ((Eq.trans (Yd.acz hY55 (i := 1) (z := 7) (by omega) (by omega) (by omega)) (by rw [upI_ne (by omega), upI_ne (by omega), upI_ne (by omega), upI_ne (by omega)]))) rfl <| ok_iloadn (pc' := 8) i204_7 rfl rfl <| ok_iadd (v := ((s 7) + (min (s 1) ((s (94 + k)) - x)))) (pc' := 9) i204_8 rfl rfl <| ok_iastore (pc' := 10) i204_9 (hY55.gr.ka) (hY55.gr.la) (by decide) rfl <| ?_
    have hY60 := Yd.waz hY55 (i := 1) (z := 7) (v := ((s 7) + (min (s 1) ((s (94 + k)) - x)))) (by omega) (by omega) (by omega)
    have e61 := frw e56 (fy_110 hY55.gr.o) hY60
    have n62 : (upI (upI (upI (upI (upI s (94 + k) ((s (94 + k)) - (x + (min (s 1) ((s (94 + k)) - x))))) (174 + k) 1) (254 + k) ((s (254 + k)) + 1)) (334 + k) 1) 7 ((s 7) + (min (s 1) ((s (94 + k)) - x)))) 3 = s 3 := (upI_ne (by omega)).trans n57
    have n63 : (upI (upI (upI (upI (upI s (94 + k) ((s (94 + k)) - (x + (min (s 1) ((s (94 + k)) - x))))) (174 + k) 1) (254 + k) ((s (254 + k)) + 1)) (334 + k) 1) 7 ((s 7) + (min (s 1) ((s (94 + k)) - x)))) 4 = s 4 := (upI_ne (by omega)).trans n58
    have n64 : (upI (upI (upI (upI (upI s (94 + k) ((s (94 + k)) - (x + (min (s 1) ((s (94 + k)) - x))))) (174 + k) 1) (254 + k) ((s (254 + k)) + 1)) (334 + k) 1) 7 ((s 7) + (min (s 1) ((s (94 + k)) - x)))) 5 = s 5 := (upI_ne (by omega)).trans n59
    refine ok_aloadn (pc' := 11) i204_10 rfl rfl <| ok_getfr (r := 110) (pc' := 14) i204_11 o204 gr17_47 (hY60.gr.ky) (hY60.gr.r7) rfl <| ok_iconst (pc' := 15) i204_14 rfl <| ok_dup2 (pc' := 16) i204_15 ⟨rfl, rfl⟩ rfl <| ok_iaload (v := (s 9)) (pc' := 17) i204_16 (hY60.gr.ka) (by decide) (hY60.gr.la) (by decide) ((Eq.trans (Yd.acz hY60 (i := 3) (z := 9) (by omega) (by omega) (by omega)) (by rw [upI_ne (by omega), upI_ne (by omega), upI_ne (by omega), upI_ne (by omega), upI_ne (by omega)]))) rfl <| ok_iloadn (pc' := 18) i204_17 rfl rfl <| ok_aloadn (pc' := 19) i204_18 rfl rfl <| ok_getfr (r := 104) (pc' := 22) i204_19 o204 gr17_22 (hY60.gr.ky) (hY60.gr.r1) rfl <| ?_
    refine ok_aloadn (pc' := 23) i204_22 rfl rfl <| ok_getfi (v := (s (14 + k))) (pc' := 26) i204_23 o204 gi17_151 ((hY60.gr.rr k (by omega) (by omega)).2.2) ((Eq.trans (Yd.r1 hY60 (k := k) (by omega) (by omega)) (by rw [upI_ne (by omega), upI_ne (by omega), upI_ne (by omega), upI_ne (by omega), upI_ne (by omega)]))) rfl <| ok_aaload (r := (A.K (s (14 + k)))) (pc' := 27) i204_26 (hY60.gr.k4) (by decide) (hY60.gr.l4) (by omega) ((hY60.gr.kk (s (14 + k)) (by omega) (by omega)).1) rfl <| ok_iconst (pc' := 28) i204_27 rfl <| ?_
    have z65 : 1 ≤ q (6 + (s (14 + k))) ∧ q (6 + (s (14 + k))) ≤ 99 := Q_6 hQ (by omega) (by omega)
    refine ok_iaload (v := (q (6 + (s (14 + k))))) (pc' := 29) i204_28 ((hY60.gr.kk (s (14 + k)) (by omega) (by omega)).2.2.1) (by decide) ((hY60.gr.kk (s (14 + k)) (by omega) (by omega)).2.2.2) (by decide) ((hY60.mr.kk (s (14 + k)) (by omega) (by omega)).2) rfl <| ok_imul (v := ((min (s 1) ((s (94 + k)) - x)) * (q (6 + (s (14 + k)))))) (pc' := 30) i204_29 rfl rfl <| ok_iadd (v := ((s 9) + ((min (s 1) ((s (94 + k)) - x)) * (q (6 + (s (14 + k))))))) (pc' := 31) i204_30 rfl rfl <| ok_iastore (pc' := 32) i204_31 (hY60.gr.ka) (hY60.gr.la) (by decide) rfl <| ?_
    have hY66 := Yd.waz hY60 (i := 3) (z := 9) (v := ((s 9) + ((min (s 1) ((s (94 + k)) - x)) * (q (6 + (s (14 + k))))))) (by omega) (by omega) (by omega)
    have e67 := frw e61 (fy_110 hY60.gr.o) hY66
    have n68 : (upI (upI (upI (upI (upI (upI s (94 + k) ((s (94 + k)) - (x + (min (s 1) ((s (94 + k)) - x))))) (174 + k) 1) (254 + k) ((s (254 + k)) + 1)) (334 + k) 1) 7 ((s 7) + (min (s 1) ((s (94 + k)) - x)))) 9 ((s 9) + ((min (s 1) ((s (94 + k)) - x)) * (q (6 + (s (14 + k))))))) 3 = s 3 := (upI_ne (by omega)).trans n62
    have n69 : (upI (upI (upI (upI (upI (upI s (94 + k) ((s (94 + k)) - (x + (min (s 1) ((s (94 + k)) - x))))) (174 + k) 1) (254 + k) ((s (254 + k)) + 1)) (334 + k) 1) 7 ((s 7) + (min (s 1) ((s (94 + k)) - x)))) 9 ((s 9) + ((min (s 1) ((s (94 + k)) - x)) * (q (6 + (s (14 + k))))))) 4 = s 4 := (upI_ne (by omega)).trans n63
    have n70 : (upI (upI (upI (upI (upI (upI s (94 + k) ((s (94 + k)) - (x + (min (s 1) ((s (94 + k)) - x))))) (174 + k) 1) (254 + k) ((s (254 + k)) + 1)) (334 + k) 1) 7 ((s 7) + (min (s 1) ((s (94 + k)) - x)))) 9 ((s 9) + ((min (s 1) ((s (94 + k)) - x)) * (q (6 + (s (14 + k))))))) 5 = s 5 := (upI_ne (by omega)).trans n64
    refine ok_vret i204_32 rt204 <| kt_0 (pc' := 64) rfl <| ok_aloadn (pc' := 65) i203_64 rfl rfl <| ok_getfr (r := 110) (pc' := 68) i203_65 o203 gr17_47 (hY66.gr.ky) (hY66.gr.r7) rfl <| ok_iconst (pc' := 69) i203_68 rfl <| ok_dup2 (pc' := 70) i203_69 ⟨rfl, rfl⟩ rfl <| ok_iaload (v := (s 11)) (pc' := 71) i203_70 (hY66.gr.ka) (by decide) (hY66.gr.la) (by decide) ((Eq.trans (Yd.acz hY66 (i := 5) (z := 11) (by omega) (by omega) (by omega)) (by rw [upI_ne (by omega), upI_ne (by omega), upI_ne (by omega), upI_ne (by omega), upI_ne (by omega), upI_ne (by omega)]))) rfl <| ok_iconst (pc' := 72) i203_71 rfl <| ?_
    refine ok_iadd (v := ((s 11) + 1)) (pc' := 73) i203_72 rfl rfl <| ok_iastore (pc' := 74) i203_73 (hY66.gr.ka) (hY66.gr.la) (by decide) rfl <| ?_
    have hY71 := Yd.waz hY66 (i := 5) (z := 11) (v := ((s 11) + 1)) (by omega) (by omega) (by omega)
    have e72 := frw e67 (fy_110 hY66.gr.o) hY71
    have n73 : (upI (upI (upI (upI (upI (upI (upI s (94 + k) ((s (94 + k)) - (x + (min (s 1) ((s (94 + k)) - x))))) (174 + k) 1) (254 + k) ((s (254 + k)) + 1)) (334 + k) 1) 7 ((s 7) + (min (s 1) ((s (94 + k)) - x)))) 9 ((s 9) + ((min (s 1) ((s (94 + k)) - x)) * (q (6 + (s (14 + k))))))) 11 ((s 11) + 1)) 3 = s 3 := (upI_ne (by omega)).trans n68
    have n74 : (upI (upI (upI (upI (upI (upI (upI s (94 + k) ((s (94 + k)) - (x + (min (s 1) ((s (94 + k)) - x))))) (174 + k) 1) (254 + k) ((s (254 + k)) + 1)) (334 + k) 1) 7 ((s 7) + (min (s 1) ((s (94 + k)) - x)))) 9 ((s 9) + ((min (s 1) ((s (94 + k)) - x)) * (q (6 + (s (14 + k))))))) 11 ((s 11) + 1)) 4 = s 4 := (upI_ne (by omega)).trans n69
    have n75 : (upI (upI (upI (upI (upI (upI (upI s (94 + k) ((s (94 + k)) - (x + (min (s 1) ((s (94 + k)) - x))))) (174 + k) 1) (254 + k) ((s (254 + k)) + 1)) (334 + k) 1) 7 ((s 7) + (min (s 1) ((s (94 + k)) - x)))) 9 ((s 9) + ((min (s 1) ((s (94 + k)) - x)) * (q (6 + (s (14 + k))))))) 11 ((s 11) + 1)) 5 = s 5 := (upI_ne (by omega)).trans n70
    refine ok_aloadn (pc' := 75) i203_74 rfl rfl <| ok_getfr (r := 110) (pc' := 78) i203_75 o203 gr17_47 (hY71.gr.ky) (hY71.gr.r7) rfl <| ok_bipush (v := 7) (pc' := 80) i203_78 rfl rfl <| ok_dup2 (pc' := 81) i203_80 ⟨rfl, rfl⟩ rfl <| ok_iaload (v := (s 13)) (pc' := 82) i203_81 (hY71.gr.ka) (by decide) (hY71.gr.la) (by decide) ((Eq.trans (Yd.acz hY71 (i := 7) (z := 13) (by omega) (by omega) (by omega)) (by rw [upI_ne (by omega), upI_ne (by omega), upI_ne (by omega), upI_ne (by omega), upI_ne (by omega), upI_ne (by omega), upI_ne (by omega)]))) rfl <| ok_iloadn (pc' := 83) i203_82 rfl rfl <| ok_iadd (v := ((s 13) + x)) (pc' := 84) i203_83 rfl rfl <| ok_iastore (pc' := 85) i203_84 (hY71.gr.ka) (hY71.gr.la) (by decide) rfl <| ?_
    have hY76 := Yd.waz hY71 (i := 7) (z := 13) (v := ((s 13) + x)) (by omega) (by omega) (by omega)
    have e77 := frw e72 (fy_110 hY71.gr.o) hY76
    have n78 : (upI (upI (upI (upI (upI (upI (upI (upI s (94 + k) ((s (94 + k)) - (x + (min (s 1) ((s (94 + k)) - x))))) (174 + k) 1) (254 + k) ((s (254 + k)) + 1)) (334 + k) 1) 7 ((s 7) + (min (s 1) ((s (94 + k)) - x)))) 9 ((s 9) + ((min (s 1) ((s (94 + k)) - x)) * (q (6 + (s (14 + k))))))) 11 ((s 11) + 1)) 13 ((s 13) + x)) 3 = s 3 := (upI_ne (by omega)).trans n73
    have n79 : (upI (upI (upI (upI (upI (upI (upI (upI s (94 + k) ((s (94 + k)) - (x + (min (s 1) ((s (94 + k)) - x))))) (174 + k) 1) (254 + k) ((s (254 + k)) + 1)) (334 + k) 1) 7 ((s 7) + (min (s 1) ((s (94 + k)) - x)))) 9 ((s 9) + ((min (s 1) ((s (94 + k)) - x)) * (q (6 + (s (14 + k))))))) 11 ((s 11) + 1)) 13 ((s 13) + x)) 4 = s 4 := (upI_ne (by omega)).trans n74
    have n80 : (upI (upI (upI (upI (upI (upI (upI (upI s (94 + k) ((s (94 + k)) - (x + (min (s 1) ((s (94 + k)) - x))))) (174 + k) 1) (254 + k) ((s (254 + k)) + 1)) (334 + k) 1) 7 ((s 7) + (min (s 1) ((s (94 + k)) - x)))) 9 ((s 9) + ((min (s 1) ((s (94 + k)) - x)) * (q (6 + (s (14 + k))))))) 11 ((s 11) + 1)) 13 ((s 13) + x)) 5 = s 5 := (upI_ne (by omega)).trans n75
    exact K _ (Yd.ext hY76 (fun j => congrFun (cut_eq hk.1 hx hl1 (by split <;> omega)) j)) e77
theorem give_late {s : Int → Int} {o : Int} (ho : 0 ≤ o) (h : s ((414 + (8 * o)) + 3) < s 0) : (upI (upI (upI (upI (upI s ((414 + (8 * o)) + 4) ((s ((414 + (8 * o)) + 4)) - 1)) ((414 + (8 * o)) + 6) ((s ((414 + (8 * o)) + 6)) + 1)) ((414 + (8 * o)) + 5) ((s ((414 + (8 * o)) + 5)) + 0)) 10 ((s 10) + (Int.tdiv (s ((414 + (8 * o)) + 2)) 2))) 12 ((s 12) + 1)) = giveS s o := by
  unfold giveS give2
  have h' : s ((414 + (8 * o)) + 3) < s 0 := by omega
  simp only [if_pos h']
  funext j
  simp only [upI]
  grind (splits := 40)
theorem give_time {s : Int → Int} {o : Int} (ho : 0 ≤ o) (h : s 0 ≤ s ((414 + (8 * o)) + 3)) : (upI (upI (upI (upI (upI s ((414 + (8 * o)) + 4) ((s ((414 + (8 * o)) + 4)) - 1)) ((414 + (8 * o)) + 6) ((s ((414 + (8 * o)) + 6)) + 0)) ((414 + (8 * o)) + 5) ((s ((414 + (8 * o)) + 5)) + 1)) 10 ((s 10) + (s ((414 + (8 * o)) + 2)))) 12 ((s 12) + 0)) = giveS s o := by
  unfold giveS give2
  have h' : ¬ (s ((414 + (8 * o)) + 3) < s 0) := by omega
  simp only [if_neg h']
  funext j
  simp only [upI]
  grind (splits := 40)
theorem w203_n {g : AG} {M : AM} {O : Nat} {A : YA} {s q : Int → Int} {b : Int} {k x m : Int} {Q : AO → AG → AM → Prop} (hY : Yd g M O A s q) (hV : Val b q s) (hk : 0 ≤ k ∧ k < s 3) (hx : 1 ≤ x ∧ x ≤ 200) (ho : r218 s x = -1) (K : ∀ M1 : AM, Yd g M1 O A (upI s (542 + x) ((s (542 + x)) + 1)) q → Fr (FY O) 0 0 g M g M1 → Ok 1 203 132 [aR 101, aR (A.R k), aI x, aI m, aR 0, aI (-1)] [] g M1 Q) : Ok 1 203 85 [aR 101, aR (A.R k), aI x, aI m, aU, aU] [] g M Q := by
  have hQ := V_q hV
  have y3 := V_3 hV
  have y4 := V_4 hV
  have y5 := V_5 hV
  have yq0 := Q_0 hQ
  have yq1 := Q_1 hQ
  have e0 : Fr (FY O) 0 0 g M g M := Fr.rfl
  refine ok_aloadn (pc' := 86) i203_85 rfl rfl <| ok_iloadn (pc' := 87) i203_86 rfl rfl <| ?_
  refine ok_cc i203_87 rfl (cl_v o203 m17_174 na205 rfl rfl (bt rfl) (bt rfl) rfl (by rw [hY.gr.ky, o205])) ln205 (pd205 (aR 101) (aI x)) <| (Ok.deep (t205 (x1 := x) hY hV ⟨by omega, by omega⟩) (by omega)).mono (fun o9 g9 M9 p9 => ?_)
  obtain ⟨rfl, e2, e3⟩ := p9
  rw [e2, e3]
  rw [ho, nulR_0]
  refine kt_v (pc' := 90) rfl <| ok_astore (pc' := 92) (ls' := [aR 101, aR (A.R k), aI x, aI m, aR 0, aU]) i203_90 (bt rfl) rfl rfl <| ok_aload (pc' := 94) i203_92 rfl rfl <| ok_ifnn1 (pc1 := 97) i203_94 (by decide) rfl <| ok_aloadn (pc' := 98) i203_97 rfl rfl <| ok_getfr (r := 109) (pc' := 101) i203_98 o203 gr17_44 (hY.gr.ky) (hY.gr.r6) rfl <| ok_iloadn (pc' := 102) i203_101 rfl rfl <| ok_dup2 (pc' := 103) i203_102 ⟨rfl, rfl⟩ rfl <| ?_
  have z1 : 0 ≤ s (542 + x) ∧ s (542 + x) ≤ 1000000 := V_s hV (by omega) (by omega)
  refine ok_iaload (v := (s (542 + x))) (pc' := 104) i203_103 (hY.gr.k9) (by decide) (hY.gr.l9) (by omega) ((Yd.st hY (i := x) (by omega) (by omega))) rfl <| ok_iconst (pc' := 105) i203_104 rfl <| ok_iadd (v := ((s (542 + x)) + 1)) (pc' := 106) i203_105 rfl rfl <| ok_iastore (pc' := 107) i203_106 (hY.gr.k9) (hY.gr.l9) (by omega) rfl <| ?_
  have hY2 := Yd.ws hY (i := x) (v := ((s (542 + x)) + 1)) (by omega) (by omega)
  have e3 := frw e0 (fy_109 hY.gr.o) hY2
  have n4 : (upI s (542 + x) ((s (542 + x)) + 1)) 3 = s 3 := upI_ne (by omega)
  have n5 : (upI s (542 + x) ((s (542 + x)) + 1)) 4 = s 4 := upI_ne (by omega)
  have n6 : (upI s (542 + x) ((s (542 + x)) + 1)) 5 = s 5 := upI_ne (by omega)
  refine ok_goto (pc' := 116) i203_107 rfl <| ok_aload (pc' := 118) i203_116 rfl rfl <| ok_ifnn1 (pc1 := 121) i203_118 (by decide) rfl <| ok_iconst (pc' := 122) i203_121 rfl <| ok_goto (pc' := 130) i203_122 rfl <| ok_istore (pc' := 132) (ls' := [aR 101, aR (A.R k), aI x, aI m, aR 0, aI (-1)]) i203_130 (bt rfl) rfl rfl <| ?_
  exact K _ hY2 e3
theorem w203_s {g : AG} {M : AM} {O : Nat} {A : YA} {s q : Int → Int} {b : Int} {k x m : Int} {Q : AO → AG → AM → Prop} (hY : Yd g M O A s q) (hV : Val b q s) (hk : 0 ≤ k ∧ k < s 3) (hx : 1 ≤ x ∧ x ≤ 200) (ho : 0 ≤ r218 s x ∧ r218 s x < s 4) (K : ∀ M1 : AM, Yd g M1 O A (giveS s (r218 s x)) q → Fr (FY O) 0 0 g M g M1 → Ok 1 203 132 [aR 101, aR (A.R k), aI x, aI m, aR (A.D (r218 s x)), aI (r218 s x)] [] g M1 Q) : Ok 1 203 85 [aR 101, aR (A.R k), aI x, aI m, aU, aU] [] g M Q := by
  have hQ := V_q hV
  have y3 := V_3 hV
  have y4 := V_4 hV
  have y5 := V_5 hV
  have yq0 := Q_0 hQ
  have yq1 := Q_1 hQ
  have e0 : Fr (FY O) 0 0 g M g M := Fr.rfl
  refine ok_aloadn (pc' := 86) i203_85 rfl rfl <| ok_iloadn (pc' := 87) i203_86 rfl rfl <| ?_
  refine ok_cc i203_87 rfl (cl_v o203 m17_174 na205 rfl rfl (bt rfl) (bt rfl) rfl (by rw [hY.gr.ky, o205])) ln205 (pd205 (aR 101) (aI x)) <| (Ok.deep (t205 (x1 := x) hY hV ⟨by omega, by omega⟩) (by omega)).mono (fun o9 g9 M9 p9 => ?_)
  obtain ⟨rfl, e2, e3⟩ := p9
  rw [e2, e3]
  rw [nulR_1 (by omega)]
  refine kt_v (pc' := 90) rfl <| ok_astore (pc' := 92) (ls' := [aR 101, aR (A.R k), aI x, aI m, aR (A.D (r218 s x)), aU]) i203_90 (bt rfl) rfl rfl <| ok_aload (pc' := 94) i203_92 rfl rfl <| ok_ifnn0 (pc1 := 110) i203_94 (Or.inl (Nat.le_trans (by decide) (hY.gr.dd (r218 s x) (by omega) (by omega)).2.1.1)) rfl <| ok_aloadn (pc' := 111) i203_110 rfl rfl <| ok_aload (pc' := 113) i203_111 rfl rfl <| ok_cc i203_113 rfl (cl_v o203 m17_130 na198 rfl rfl (bt rfl) (bt rfl) rfl (by rw [hY.gr.ky, o198])) ln198 (pd198 (aR 101) (aR (A.D (r218 s x)))) <| ok_aloadn (pc' := 1) i198_0 rfl rfl <| ?_
  have z1 : 0 ≤ s 0 ∧ s 0 ≤ 1000000 := V_0 hV
  refine ok_getfi (v := (s 0)) (pc' := 4) i198_1 o198 gi17_103 (hY.gr.ky) ((Yd.n0 hY)) rfl <| ok_aloadn (pc' := 5) i198_4 rfl rfl <| ?_
  have z2 : 0 ≤ s ((414 + (8 * (r218 s x))) + 3) ∧ s ((414 + (8 * (r218 s x))) + 3) ≤ 999 := V_o3 hV (by omega) (by omega)
  refine ok_getfi (v := (s ((414 + (8 * (r218 s x))) + 3))) (pc' := 8) i198_5 o198 gi17_136 ((hY.gr.dd (r218 s x) (by omega) (by omega)).2.2) ((Yd.d4 hY (k := (r218 s x)) (by omega) (by omega))) rfl <| ?_
  refine ok_cle (pc1 := 15) (pc2 := 11) i198_8 (by omega) rfl rfl (fun h3 => ?_) (fun h3 => ?_)
  · refine ok_iconst (pc' := 16) i198_15 rfl <| ok_istoren (pc' := 17) (ls' := [aR 101, aR (A.D (r218 s x)), aI 0]) i198_16 (bt rfl) rfl rfl <| ok_aloadn (pc' := 18) i198_17 rfl rfl <| ok_dup (pc' := 19) i198_18 rfl rfl <| ?_
    have z4 : 0 ≤ s ((414 + (8 * (r218 s x))) + 4) ∧ s ((414 + (8 * (r218 s x))) + 4) ≤ 9 := V_o4 hV (by omega) (by omega)
    refine ok_getfi (v := (s ((414 + (8 * (r218 s x))) + 4))) (pc' := 22) i198_19 o198 gi17_127 ((hY.gr.dd (r218 s x) (by omega) (by omega)).2.2) ((Yd.d5 hY (k := (r218 s x)) (by omega) (by omega))) rfl <| ok_iconst (pc' := 23) i198_22 rfl <| ok_isub (v := ((s ((414 + (8 * (r218 s x))) + 4)) - 1)) (pc' := 24) i198_23 rfl rfl <| ok_putfj (kk := 5) (pc' := 27) i198_24 o198 pi198_127 ((hY.gr.dd (r218 s x) (by omega) (by omega)).2.2) rfl rfl <| ?_
    have hY5 := Yd.wd5 hY (k := (r218 s x)) (v := ((s ((414 + (8 * (r218 s x))) + 4)) - 1)) (by omega) (by omega)
    have e6 := frw e0 (hY.gr.dd (r218 s x) (by omega) (by omega)).2.1.fy hY5
    have n7 : (upI s ((414 + (8 * (r218 s x))) + 4) ((s ((414 + (8 * (r218 s x))) + 4)) - 1)) 3 = s 3 := upI_ne (by omega)
    have n8 : (upI s ((414 + (8 * (r218 s x))) + 4) ((s ((414 + (8 * (r218 s x))) + 4)) - 1)) 4 = s 4 := upI_ne (by omega)
    have n9 : (upI s ((414 + (8 * (r218 s x))) + 4) ((s ((414 + (8 * (r218 s x))) + 4)) - 1)) 5 = s 5 := upI_ne (by omega)
    refine ok_aloadn (pc' := 28) i198_27 rfl rfl <| ok_dup (pc' := 29) i198_28 rfl rfl <| ?_
    have z10 : 0 ≤ s ((414 + (8 * (r218 s x))) + 6) ∧ s ((414 + (8 * (r218 s x))) + 6) ≤ 9 := V_o6 hV (by omega) (by omega)
    refine ok_getfi (v := (s ((414 + (8 * (r218 s x))) + 6))) (pc' := 32) i198_29 o198 gi17_139 ((hY5.gr.dd (r218 s x) (by omega) (by omega)).2.2) ((Eq.trans (Yd.d7 hY5 (k := (r218 s x)) (by omega) (by omega)) (by rw [upI_ne (by omega)]))) rfl <| ok_iloadn (pc' := 33) i198_32 rfl rfl <| ok_kz1 (pc1 := 40) (pc2 := 36) i198_33 (by decide) rfl rfl <| ok_iconst (pc' := 41) i198_40 rfl <| ok_iadd (v := ((s ((414 + (8 * (r218 s x))) + 6)) + 0)) (pc' := 42) i198_41 rfl rfl <| ok_putfj (kk := 7) (pc' := 45) i198_42 o198 pi198_139 ((hY5.gr.dd (r218 s x) (by omega) (by omega)).2.2) rfl rfl <| ?_
    have hY11 := Yd.wd7 hY5 (k := (r218 s x)) (v := ((s ((414 + (8 * (r218 s x))) + 6)) + 0)) (by omega) (by omega)
    have e12 := frw e6 (hY5.gr.dd (r218 s x) (by omega) (by omega)).2.1.fy hY11
    have n13 : (upI (upI s ((414 + (8 * (r218 s x))) + 4) ((s ((414 + (8 * (r218 s x))) + 4)) - 1)) ((414 + (8 * (r218 s x))) + 6) ((s ((414 + (8 * (r218 s x))) + 6)) + 0)) 3 = s 3 := (upI_ne (by omega)).trans n7
    have n14 : (upI (upI s ((414 + (8 * (r218 s x))) + 4) ((s ((414 + (8 * (r218 s x))) + 4)) - 1)) ((414 + (8 * (r218 s x))) + 6) ((s ((414 + (8 * (r218 s x))) + 6)) + 0)) 4 = s 4 := (upI_ne (by omega)).trans n8
    have n15 : (upI (upI s ((414 + (8 * (r218 s x))) + 4) ((s ((414 + (8 * (r218 s x))) + 4)) - 1)) ((414 + (8 * (r218 s x))) + 6) ((s ((414 + (8 * (r218 s x))) + 6)) + 0)) 5 = s 5 := (upI_ne (by omega)).trans n9
    refine ok_aloadn (pc' := 46) i198_45 rfl rfl <| ok_dup (pc' := 47) i198_46 rfl rfl <| ?_
    have z16 : 0 ≤ s ((414 + (8 * (r218 s x))) + 5) ∧ s ((414 + (8 * (r218 s x))) + 5) ≤ 9 := V_o5 hV (by omega) (by omega)
    refine ok_getfi (v := (s ((414 + (8 * (r218 s x))) + 5))) (pc' := 50) i198_47 o198 gi17_142 ((hY11.gr.dd (r218 s x) (by omega) (by omega)).2.2) ((Eq.trans (Yd.d6 hY11 (k := (r218 s x)) (by omega) (by omega)) (by rw [upI_ne (by omega), upI_ne (by omega)]))) rfl <| ok_iloadn (pc' := 51) i198_50 rfl rfl <| ok_kz1 (pc1 := 58) (pc2 := 54) i198_51 (by decide) rfl rfl <| ok_iconst (pc' := 59) i198_58 rfl <| ok_iadd (v := ((s ((414 + (8 * (r218 s x))) + 5)) + 1)) (pc' := 60) i198_59 rfl rfl <| ok_putfj (kk := 6) (pc' := 63) i198_60 o198 pi198_142 ((hY11.gr.dd (r218 s x) (by omega) (by omega)).2.2) rfl rfl <| ?_
    have hY17 := Yd.wd6 hY11 (k := (r218 s x)) (v := ((s ((414 + (8 * (r218 s x))) + 5)) + 1)) (by omega) (by omega)
    have e18 := frw e12 (hY11.gr.dd (r218 s x) (by omega) (by omega)).2.1.fy hY17
    have n19 : (upI (upI (upI s ((414 + (8 * (r218 s x))) + 4) ((s ((414 + (8 * (r218 s x))) + 4)) - 1)) ((414 + (8 * (r218 s x))) + 6) ((s ((414 + (8 * (r218 s x))) + 6)) + 0)) ((414 + (8 * (r218 s x))) + 5) ((s ((414 + (8 * (r218 s x))) + 5)) + 1)) 3 = s 3 := (upI_ne (by omega)).trans n13
    have n20 : (upI (upI (upI s ((414 + (8 * (r218 s x))) + 4) ((s ((414 + (8 * (r218 s x))) + 4)) - 1)) ((414 + (8 * (r218 s x))) + 6) ((s ((414 + (8 * (r218 s x))) + 6)) + 0)) ((414 + (8 * (r218 s x))) + 5) ((s ((414 + (8 * (r218 s x))) + 5)) + 1)) 4 = s 4 := (upI_ne (by omega)).trans n14
    have n21 : (upI (upI (upI s ((414 + (8 * (r218 s x))) + 4) ((s ((414 + (8 * (r218 s x))) + 4)) - 1)) ((414 + (8 * (r218 s x))) + 6) ((s ((414 + (8 * (r218 s x))) + 6)) + 0)) ((414 + (8 * (r218 s x))) + 5) ((s ((414 + (8 * (r218 s x))) + 5)) + 1)) 5 = s 5 := (upI_ne (by omega)).trans n15
    refine ok_aloadn (pc' := 64) i198_63 rfl rfl <| ok_getfr (r := 110) (pc' := 67) i198_64 o198 gr17_47 (hY17.gr.ky) (hY17.gr.r7) rfl <| ok_iconst (pc' := 68) i198_67 rfl <| ok_dup2 (pc' := 69) i198_68 ⟨rfl, rfl⟩ rfl <| ok_iaload (v := (s 10)) (pc' := 70) i198_69 (hY17.gr.ka) (by decide) (hY17.gr.la) (by decide) ((Eq.trans (Yd.acz hY17 (i := 4) (z := 10) (by omega) (by omega) (by omega)) (by rw [upI_ne (by omega), upI_ne (by omega), upI_ne (by omega)]))) rfl <| ok_iloadn (pc' := 71) i198_70 rfl rfl <| ok_kz1 (pc1 := 83) (pc2 := 74) i198_71 (by decide) rfl rfl <| ok_aloadn (pc' := 84) i198_83 rfl rfl <| ?_
    have z22 : 0 ≤ s ((414 + (8 * (r218 s x))) + 2) ∧ s ((414 + (8 * (r218 s x))) + 2) ≤ 99 := V_o2 hV (by omega) (by omega)
    refine ok_getfi (v := (s ((414 + (8 * (r218 s x))) + 2))) (pc' := 87) i198_84 o198 gi17_145 ((hY17.gr.dd (r218 s x) (by omega) (by omega)).2.2) ((Eq.trans (Yd.d3 hY17 (k := (r218 s x)) (by omega) (by omega)) (by rw [upI_ne (by omega), upI_ne (by omega), upI_ne (by omega)]))) rfl <| ok_iadd (v := ((s 10) + (s ((414 + (8 * (r218 s x))) + 2)))) (pc' := 88) i198_87 rfl rfl <| ok_iastore (pc' := 89) i198_88 (hY17.gr.ka) (hY17.gr.la) (by decide) rfl <| ?_
    have hY23 := Yd.waz hY17 (i := 4) (z := 10) (v := ((s 10) + (s ((414 + (8 * (r218 s x))) + 2)))) (by omega) (by omega) (by omega)
    have e24 := frw e18 (fy_110 hY17.gr.o) hY23
    have n25 : (upI (upI (upI (upI s ((414 + (8 * (r218 s x))) + 4) ((s ((414 + (8 * (r218 s x))) + 4)) - 1)) ((414 + (8 * (r218 s x))) + 6) ((s ((414 + (8 * (r218 s x))) + 6)) + 0)) ((414 + (8 * (r218 s x))) + 5) ((s ((414 + (8 * (r218 s x))) + 5)) + 1)) 10 ((s 10) + (s ((414 + (8 * (r218 s x))) + 2)))) 3 = s 3 := (upI_ne (by omega)).trans n19
    have n26 : (upI (upI (upI (upI s ((414 + (8 * (r218 s x))) + 4) ((s ((414 + (8 * (r218 s x))) + 4)) - 1)) ((414 + (8 * (r218 s x))) + 6) ((s ((414 + (8 * (r218 s x))) + 6)) + 0)) ((414 + (8 * (r218 s x))) + 5) ((s ((414 + (8 * (r218 s x))) + 5)) + 1)) 10 ((s 10) + (s ((414 + (8 * (r218 s x))) + 2)))) 4 = s 4 := (upI_ne (by omega)).trans n20
    have n27 : (upI (upI (upI (upI s ((414 + (8 * (r218 s x))) + 4) ((s ((414 + (8 * (r218 s x))) + 4)) - 1)) ((414 + (8 * (r218 s x))) + 6) ((s ((414 + (8 * (r218 s x))) + 6)) + 0)) ((414 + (8 * (r218 s x))) + 5) ((s ((414 + (8 * (r218 s x))) + 5)) + 1)) 10 ((s 10) + (s ((414 + (8 * (r218 s x))) + 2)))) 5 = s 5 := (upI_ne (by omega)).trans n21
    refine ok_aloadn (pc' := 90) i198_89 rfl rfl <| ok_getfr (r := 110) (pc' := 93) i198_90 o198 gr17_47 (hY23.gr.ky) (hY23.gr.r7) rfl <| ok_bipush (v := 6) (pc' := 95) i198_93 rfl rfl <| ok_dup2 (pc' := 96) i198_95 ⟨rfl, rfl⟩ rfl <| ok_iaload (v := (s 12)) (pc' := 97) i198_96 (hY23.gr.ka) (by decide) (hY23.gr.la) (by decide) ((Eq.trans (Yd.acz hY23 (i := 6) (z := 12) (by omega) (by omega) (by omega)) (by rw [upI_ne (by omega), upI_ne (by omega), upI_ne (by omega), upI_ne (by omega)]))) rfl <| ok_iloadn (pc' := 98) i198_97 rfl rfl <| ok_kz1 (pc1 := 105) (pc2 := 101) i198_98 (by decide) rfl rfl <| ok_iconst (pc' := 106) i198_105 rfl <| ?_
    refine ok_iadd (v := ((s 12) + 0)) (pc' := 107) i198_106 rfl rfl <| ok_iastore (pc' := 108) i198_107 (hY23.gr.ka) (hY23.gr.la) (by decide) rfl <| ?_
    have hY28 := Yd.waz hY23 (i := 6) (z := 12) (v := ((s 12) + 0)) (by omega) (by omega) (by omega)
    have e29 := frw e24 (fy_110 hY23.gr.o) hY28
    have n30 : (upI (upI (upI (upI (upI s ((414 + (8 * (r218 s x))) + 4) ((s ((414 + (8 * (r218 s x))) + 4)) - 1)) ((414 + (8 * (r218 s x))) + 6) ((s ((414 + (8 * (r218 s x))) + 6)) + 0)) ((414 + (8 * (r218 s x))) + 5) ((s ((414 + (8 * (r218 s x))) + 5)) + 1)) 10 ((s 10) + (s ((414 + (8 * (r218 s x))) + 2)))) 12 ((s 12) + 0)) 3 = s 3 := (upI_ne (by omega)).trans n25
    have n31 : (upI (upI (upI (upI (upI s ((414 + (8 * (r218 s x))) + 4) ((s ((414 + (8 * (r218 s x))) + 4)) - 1)) ((414 + (8 * (r218 s x))) + 6) ((s ((414 + (8 * (r218 s x))) + 6)) + 0)) ((414 + (8 * (r218 s x))) + 5) ((s ((414 + (8 * (r218 s x))) + 5)) + 1)) 10 ((s 10) + (s ((414 + (8 * (r218 s x))) + 2)))) 12 ((s 12) + 0)) 4 = s 4 := (upI_ne (by omega)).trans n26
    have n32 : (upI (upI (upI (upI (upI s ((414 + (8 * (r218 s x))) + 4) ((s ((414 + (8 * (r218 s x))) + 4)) - 1)) ((414 + (8 * (r218 s x))) + 6) ((s ((414 + (8 * (r218 s x))) + 6)) + 0)) ((414 + (8 * (r218 s x))) + 5) ((s ((414 + (8 * (r218 s x))) + 5)) + 1)) 10 ((s 10) + (s ((414 + (8 * (r218 s x))) + 2)))) 12 ((s 12) + 0)) 5 = s 5 := (upI_ne (by omega)).trans n27
    refine ok_vret i198_108 rt198 <| kt_0 (pc' := 116) rfl <| ok_aload (pc' := 118) i203_116 rfl rfl <| ok_ifnn0 (pc1 := 125) i203_118 (Or.inl (Nat.le_trans (by decide) (hY28.gr.dd (r218 s x) (by omega) (by omega)).2.1.1)) rfl <| ok_aload (pc' := 127) i203_125 rfl rfl <| ok_getfi (v := (r218 s x)) (pc' := 130) i203_127 o203 gi17_133 ((hY28.gr.dd (r218 s x) (by omega) (by omega)).2.2) ((hY28.mr.dn (r218 s x) (by omega) (by omega))) rfl <| ok_istore (pc' := 132) (ls' := [aR 101, aR (A.R k), aI x, aI m, aR (A.D (r218 s x)), aI (r218 s x)]) i203_130 (bt rfl) rfl rfl <| ?_
    exact K _ (Yd.ext hY28 (fun j => congrFun (give_time (by omega) (by omega)) j)) e29
  · refine ok_iconst (pc' := 12) i198_11 rfl <| ok_goto (pc' := 16) i198_12 rfl <| ok_istoren (pc' := 17) (ls' := [aR 101, aR (A.D (r218 s x)), aI 1]) i198_16 (bt rfl) rfl rfl <| ok_aloadn (pc' := 18) i198_17 rfl rfl <| ok_dup (pc' := 19) i198_18 rfl rfl <| ?_
    have z33 : 0 ≤ s ((414 + (8 * (r218 s x))) + 4) ∧ s ((414 + (8 * (r218 s x))) + 4) ≤ 9 := V_o4 hV (by omega) (by omega)
    refine ok_getfi (v := (s ((414 + (8 * (r218 s x))) + 4))) (pc' := 22) i198_19 o198 gi17_127 ((hY.gr.dd (r218 s x) (by omega) (by omega)).2.2) ((Yd.d5 hY (k := (r218 s x)) (by omega) (by omega))) rfl <| ok_iconst (pc' := 23) i198_22 rfl <| ok_isub (v := ((s ((414 + (8 * (r218 s x))) + 4)) - 1)) (pc' := 24) i198_23 rfl rfl <| ok_putfj (kk := 5) (pc' := 27) i198_24 o198 pi198_127 ((hY.gr.dd (r218 s x) (by omega) (by omega)).2.2) rfl rfl <| ?_
    have hY34 := Yd.wd5 hY (k := (r218 s x)) (v := ((s ((414 + (8 * (r218 s x))) + 4)) - 1)) (by omega) (by omega)
    have e35 := frw e0 (hY.gr.dd (r218 s x) (by omega) (by omega)).2.1.fy hY34
    have n36 : (upI s ((414 + (8 * (r218 s x))) + 4) ((s ((414 + (8 * (r218 s x))) + 4)) - 1)) 3 = s 3 := upI_ne (by omega)
    have n37 : (upI s ((414 + (8 * (r218 s x))) + 4) ((s ((414 + (8 * (r218 s x))) + 4)) - 1)) 4 = s 4 := upI_ne (by omega)
    have n38 : (upI s ((414 + (8 * (r218 s x))) + 4) ((s ((414 + (8 * (r218 s x))) + 4)) - 1)) 5 = s 5 := upI_ne (by omega)
    refine ok_aloadn (pc' := 28) i198_27 rfl rfl <| ok_dup (pc' := 29) i198_28 rfl rfl <| ?_
    have z39 : 0 ≤ s ((414 + (8 * (r218 s x))) + 6) ∧ s ((414 + (8 * (r218 s x))) + 6) ≤ 9 := V_o6 hV (by omega) (by omega)
    refine ok_getfi (v := (s ((414 + (8 * (r218 s x))) + 6))) (pc' := 32) i198_29 o198 gi17_139 ((hY34.gr.dd (r218 s x) (by omega) (by omega)).2.2) ((Eq.trans (Yd.d7 hY34 (k := (r218 s x)) (by omega) (by omega)) (by rw [upI_ne (by omega)]))) rfl <| ok_iloadn (pc' := 33) i198_32 rfl rfl <| ok_kz0 (pc1 := 40) (pc2 := 36) i198_33 (by decide) rfl rfl <| ok_iconst (pc' := 37) i198_36 rfl <| ok_goto (pc' := 41) i198_37 rfl <| ok_iadd (v := ((s ((414 + (8 * (r218 s x))) + 6)) + 1)) (pc' := 42) i198_41 rfl rfl <| ok_putfj (kk := 7) (pc' := 45) i198_42 o198 pi198_139 ((hY34.gr.dd (r218 s x) (by omega) (by omega)).2.2) rfl rfl <| ?_
    have hY40 := Yd.wd7 hY34 (k := (r218 s x)) (v := ((s ((414 + (8 * (r218 s x))) + 6)) + 1)) (by omega) (by omega)
    have e41 := frw e35 (hY34.gr.dd (r218 s x) (by omega) (by omega)).2.1.fy hY40
    have n42 : (upI (upI s ((414 + (8 * (r218 s x))) + 4) ((s ((414 + (8 * (r218 s x))) + 4)) - 1)) ((414 + (8 * (r218 s x))) + 6) ((s ((414 + (8 * (r218 s x))) + 6)) + 1)) 3 = s 3 := (upI_ne (by omega)).trans n36
    have n43 : (upI (upI s ((414 + (8 * (r218 s x))) + 4) ((s ((414 + (8 * (r218 s x))) + 4)) - 1)) ((414 + (8 * (r218 s x))) + 6) ((s ((414 + (8 * (r218 s x))) + 6)) + 1)) 4 = s 4 := (upI_ne (by omega)).trans n37
    have n44 : (upI (upI s ((414 + (8 * (r218 s x))) + 4) ((s ((414 + (8 * (r218 s x))) + 4)) - 1)) ((414 + (8 * (r218 s x))) + 6) ((s ((414 + (8 * (r218 s x))) + 6)) + 1)) 5 = s 5 := (upI_ne (by omega)).trans n38
    refine ok_aloadn (pc' := 46) i198_45 rfl rfl <| ok_dup (pc' := 47) i198_46 rfl rfl <| ?_
    have z45 : 0 ≤ s ((414 + (8 * (r218 s x))) + 5) ∧ s ((414 + (8 * (r218 s x))) + 5) ≤ 9 := V_o5 hV (by omega) (by omega)
    refine ok_getfi (v := (s ((414 + (8 * (r218 s x))) + 5))) (pc' := 50) i198_47 o198 gi17_142 ((hY40.gr.dd (r218 s x) (by omega) (by omega)).2.2) ((Eq.trans (Yd.d6 hY40 (k := (r218 s x)) (by omega) (by omega)) (by rw [upI_ne (by omega), upI_ne (by omega)]))) rfl <| ok_iloadn (pc' := 51) i198_50 rfl rfl <| ok_kz0 (pc1 := 58) (pc2 := 54) i198_51 (by decide) rfl rfl <| ok_iconst (pc' := 55) i198_54 rfl <| ok_goto (pc' := 59) i198_55 rfl <| ok_iadd (v := ((s ((414 + (8 * (r218 s x))) + 5)) + 0)) (pc' := 60) i198_59 rfl rfl <| ok_putfj (kk := 6) (pc' := 63) i198_60 o198 pi198_142 ((hY40.gr.dd (r218 s x) (by omega) (by omega)).2.2) rfl rfl <| ?_
    have hY46 := Yd.wd6 hY40 (k := (r218 s x)) (v := ((s ((414 + (8 * (r218 s x))) + 5)) + 0)) (by omega) (by omega)
    have e47 := frw e41 (hY40.gr.dd (r218 s x) (by omega) (by omega)).2.1.fy hY46
    have n48 : (upI (upI (upI s ((414 + (8 * (r218 s x))) + 4) ((s ((414 + (8 * (r218 s x))) + 4)) - 1)) ((414 + (8 * (r218 s x))) + 6) ((s ((414 + (8 * (r218 s x))) + 6)) + 1)) ((414 + (8 * (r218 s x))) + 5) ((s ((414 + (8 * (r218 s x))) + 5)) + 0)) 3 = s 3 := (upI_ne (by omega)).trans n42
    have n49 : (upI (upI (upI s ((414 + (8 * (r218 s x))) + 4) ((s ((414 + (8 * (r218 s x))) + 4)) - 1)) ((414 + (8 * (r218 s x))) + 6) ((s ((414 + (8 * (r218 s x))) + 6)) + 1)) ((414 + (8 * (r218 s x))) + 5) ((s ((414 + (8 * (r218 s x))) + 5)) + 0)) 4 = s 4 := (upI_ne (by omega)).trans n43
    have n50 : (upI (upI (upI s ((414 + (8 * (r218 s x))) + 4) ((s ((414 + (8 * (r218 s x))) + 4)) - 1)) ((414 + (8 * (r218 s x))) + 6) ((s ((414 + (8 * (r218 s x))) + 6)) + 1)) ((414 + (8 * (r218 s x))) + 5) ((s ((414 + (8 * (r218 s x))) + 5)) + 0)) 5 = s 5 := (upI_ne (by omega)).trans n44
    refine ok_aloadn (pc' := 64) i198_63 rfl rfl <| ok_getfr (r := 110) (pc' := 67) i198_64 o198 gr17_47 (hY46.gr.ky) (hY46.gr.r7) rfl <| ok_iconst (pc' := 68) i198_67 rfl <| ok_dup2 (pc' := 69) i198_68 ⟨rfl, rfl⟩ rfl <| ok_iaload (v := (s 10)) (pc' := 70) i198_69 (hY46.gr.ka) (by decide) (hY46.gr.la) (by decide) ((Eq.trans (Yd.acz hY46 (i := 4) (z := 10) (by omega) (by omega) (by omega)) (by rw [upI_ne (by omega), upI_ne (by omega), upI_ne (by omega)]))) rfl <| ok_iloadn (pc' := 71) i198_70 rfl rfl <| ok_kz0 (pc1 := 83) (pc2 := 74) i198_71 (by decide) rfl rfl <| ok_aloadn (pc' := 75) i198_74 rfl rfl <| ?_
    have z51 : 0 ≤ s ((414 + (8 * (r218 s x))) + 2) ∧ s ((414 + (8 * (r218 s x))) + 2) ≤ 99 := V_o2 hV (by omega) (by omega)
    refine ok_getfi (v := (s ((414 + (8 * (r218 s x))) + 2))) (pc' := 78) i198_75 o198 gi17_145 ((hY46.gr.dd (r218 s x) (by omega) (by omega)).2.2) ((Eq.trans (Yd.d3 hY46 (k := (r218 s x)) (by omega) (by omega)) (by rw [upI_ne (by omega), upI_ne (by omega), upI_ne (by omega)]))) rfl <| ok_iconst (pc' := 79) i198_78 rfl <| ok_idivp (v := (Int.tdiv (s ((414 + (8 * (r218 s x))) + 2)) 2)) (pc' := 80) i198_79 (by omega) rfl rfl <| ?_
    have z52 : 2 * (Int.tdiv (s ((414 + (8 * (r218 s x))) + 2)) 2) ≤ (s ((414 + (8 * (r218 s x))) + 2)) ∧ (s ((414 + (8 * (r218 s x))) + 2)) ≤ 2 * (Int.tdiv (s ((414 + (8 * (r218 s x))) + 2)) 2) + 1 ∧ 0 ≤ (Int.tdiv (s ((414 + (8 * (r218 s x))) + 2)) 2) := tdiv_f 2 (by omega) (by decide)
    refine ok_goto (pc' := 87) i198_80 rfl <| ok_iadd (v := ((s 10) + (Int.tdiv (s ((414 + (8 * (r218 s x))) + 2)) 2))) (pc' := 88) i198_87 rfl rfl <| ok_iastore (pc' := 89) i198_88 (hY46.gr.ka) (hY46.gr.la) (by decide) rfl <| ?_
    have hY53 := Yd.waz hY46 (i := 4) (z := 10) (v := ((s 10) + (Int.tdiv (s ((414 + (8 * (r218 s x))) + 2)) 2))) (by omega) (by omega) (by omega)
    have e54 := frw e47 (fy_110 hY46.gr.o) hY53
    have n55 : (upI (upI (upI (upI s ((414 + (8 * (r218 s x))) + 4) ((s ((414 + (8 * (r218 s x))) + 4)) - 1)) ((414 + (8 * (r218 s x))) + 6) ((s ((414 + (8 * (r218 s x))) + 6)) + 1)) ((414 + (8 * (r218 s x))) + 5) ((s ((414 + (8 * (r218 s x))) + 5)) + 0)) 10 ((s 10) + (Int.tdiv (s ((414 + (8 * (r218 s x))) + 2)) 2))) 3 = s 3 := (upI_ne (by omega)).trans n48
    have n56 : (upI (upI (upI (upI s ((414 + (8 * (r218 s x))) + 4) ((s ((414 + (8 * (r218 s x))) + 4)) - 1)) ((414 + (8 * (r218 s x))) + 6) ((s ((414 + (8 * (r218 s x))) + 6)) + 1)) ((414 + (8 * (r218 s x))) + 5) ((s ((414 + (8 * (r218 s x))) + 5)) + 0)) 10 ((s 10) + (Int.tdiv (s ((414 + (8 * (r218 s x))) + 2)) 2))) 4 = s 4 := (upI_ne (by omega)).trans n49
    have n57 : (upI (upI (upI (upI s ((414 + (8 * (r218 s x))) + 4) ((s ((414 + (8 * (r218 s x))) + 4)) - 1)) ((414 + (8 * (r218 s x))) + 6) ((s ((414 + (8 * (r218 s x))) + 6)) + 1)) ((414 + (8 * (r218 s x))) + 5) ((s ((414 + (8 * (r218 s x))) + 5)) + 0)) 10 ((s 10) + (Int.tdiv (s ((414 + (8 * (r218 s x))) + 2)) 2))) 5 = s 5 := (upI_ne (by omega)).trans n50
    refine ok_aloadn (pc' := 90) i198_89 rfl rfl <| ok_getfr (r := 110) (pc' := 93) i198_90 o198 gr17_47 (hY53.gr.ky) (hY53.gr.r7) rfl <| ok_bipush (v := 6) (pc' := 95) i198_93 rfl rfl <| ok_dup2 (pc' := 96) i198_95 ⟨rfl, rfl⟩ rfl <| ok_iaload (v := (s 12)) (pc' := 97) i198_96 (hY53.gr.ka) (by decide) (hY53.gr.la) (by decide) ((Eq.trans (Yd.acz hY53 (i := 6) (z := 12) (by omega) (by omega) (by omega)) (by rw [upI_ne (by omega), upI_ne (by omega), upI_ne (by omega), upI_ne (by omega)]))) rfl <| ok_iloadn (pc' := 98) i198_97 rfl rfl <| ok_kz0 (pc1 := 105) (pc2 := 101) i198_98 (by decide) rfl rfl <| ok_iconst (pc' := 102) i198_101 rfl <| ?_
    refine ok_goto (pc' := 106) i198_102 rfl <| ok_iadd (v := ((s 12) + 1)) (pc' := 107) i198_106 rfl rfl <| ok_iastore (pc' := 108) i198_107 (hY53.gr.ka) (hY53.gr.la) (by decide) rfl <| ?_
    have hY58 := Yd.waz hY53 (i := 6) (z := 12) (v := ((s 12) + 1)) (by omega) (by omega) (by omega)
    have e59 := frw e54 (fy_110 hY53.gr.o) hY58
    have n60 : (upI (upI (upI (upI (upI s ((414 + (8 * (r218 s x))) + 4) ((s ((414 + (8 * (r218 s x))) + 4)) - 1)) ((414 + (8 * (r218 s x))) + 6) ((s ((414 + (8 * (r218 s x))) + 6)) + 1)) ((414 + (8 * (r218 s x))) + 5) ((s ((414 + (8 * (r218 s x))) + 5)) + 0)) 10 ((s 10) + (Int.tdiv (s ((414 + (8 * (r218 s x))) + 2)) 2))) 12 ((s 12) + 1)) 3 = s 3 := (upI_ne (by omega)).trans n55
    have n61 : (upI (upI (upI (upI (upI s ((414 + (8 * (r218 s x))) + 4) ((s ((414 + (8 * (r218 s x))) + 4)) - 1)) ((414 + (8 * (r218 s x))) + 6) ((s ((414 + (8 * (r218 s x))) + 6)) + 1)) ((414 + (8 * (r218 s x))) + 5) ((s ((414 + (8 * (r218 s x))) + 5)) + 0)) 10 ((s 10) + (Int.tdiv (s ((414 + (8 * (r218 s x))) + 2)) 2))) 12 ((s 12) + 1)) 4 = s 4 := (upI_ne (by omega)).trans n56
    have n62 : (upI (upI (upI (upI (upI s ((414 + (8 * (r218 s x))) + 4) ((s ((414 + (8 * (r218 s x))) + 4)) - 1)) ((414 + (8 * (r218 s x))) + 6) ((s ((414 + (8 * (r218 s x))) + 6)) + 1)) ((414 + (8 * (r218 s x))) + 5) ((s ((414 + (8 * (r218 s x))) + 5)) + 0)) 10 ((s 10) + (Int.tdiv (s ((414 + (8 * (r218 s x))) + 2)) 2))) 12 ((s 12) + 1)) 5 = s 5 := (upI_ne (by omega)).trans n57
    refine ok_vret i198_108 rt198 <| kt_0 (pc' := 116) rfl <| ok_aload (pc' := 118) i203_116 rfl rfl <| ok_ifnn0 (pc1 := 125) i203_118 (Or.inl (Nat.le_trans (by decide) (hY58.gr.dd (r218 s x) (by omega) (by omega)).2.1.1)) rfl <| ok_aload (pc' := 127) i203_125 rfl rfl <| ok_getfi (v := (r218 s x)) (pc' := 130) i203_127 o203 gi17_133 ((hY58.gr.dd (r218 s x) (by omega) (by omega)).2.2) ((hY58.mr.dn (r218 s x) (by omega) (by omega))) rfl <| ok_istore (pc' := 132) (ls' := [aR 101, aR (A.R k), aI x, aI m, aR (A.D (r218 s x)), aI (r218 s x)]) i203_130 (bt rfl) rfl rfl <| ?_
    exact K _ (Yd.ext hY58 (fun j => congrFun (give_late (by omega) (by omega)) j)) e59
def logL (t : Int → Int) (r x o : Int) : Int → Int := if t 5 < 60 then logT t (upI (upI (upI (upI (fun _ => 0) 0 (t 0)) 1 r) 2 x) 3 o) else t
theorem log2t_0 {t : Int → Int} {r x o : Int} (h : ¬ t 5 < 60) : logL t r x o = t := if_neg h
theorem log2t_1 {t : Int → Int} {r x o : Int} (h : t 5 < 60) : logL t r x o = logT t (upI (upI (upI (upI (fun _ => 0) 0 (t 0)) 1 r) 2 x) 3 o) := if_pos h
theorem logL_eq {s t : Int → Int} {r x o : Int} (h5 : t 5 = s 5) (h0 : t 0 = s 0) : logL t r x o = log2 s t r x o := by
  unfold logL log2 logT
  rw [h5, h0]
  rfl
theorem w203_ln {g : AG} {M : AM} {O : Nat} {A : YA} {t q : Int → Int} {k x m o : Int} {Q : AO → AG → AM → Prop} (hY : Yd g M O A t q) (hO : O + 348 ≤ 100 + gN g) (hk : 0 ≤ k ∧ k < t 3) (ho : o = -1) (K : ∀ (g1 : AG) (M1 : AM), Yd g1 M1 O A (logL t k x o) q → Fr (FY O) 1 4 g M g1 M1 → Q (.inl (some (aI o))) g1 M1) : Ok 1 203 132 [aR 101, aR (A.R k), aI x, aI m, aR 0, aI o] [] g M Q := by
  have y3 := hY.li.1
  have y4 := hY.li.2.1
  have y5 := hY.li.2.2.1
  have e0 : Fr (FY O) 0 0 g M g M := Fr.rfl
  refine ok_aloadn (pc' := 133) i203_132 rfl rfl <| ok_getfi (v := (t 5)) (pc' := 136) i203_133 o203 gi17_106 (hY.gr.ky) ((Yd.n5 hY)) rfl <| ok_bipush (v := 60) (pc' := 138) i203_136 rfl rfl <| ?_
  refine ok_cge (pc1 := 176) (pc2 := 141) i203_138 (by omega) rfl rfl (fun h1 => ?_) (fun h1 => ?_)
  · refine ok_aloadn (pc' := 177) i203_176 rfl rfl <| ok_bipush (v := 60) (pc' := 179) i203_177 rfl rfl <| ok_aloadn (pc' := 180) i203_179 rfl rfl <| ok_getfi (v := (t 5)) (pc' := 183) i203_180 o203 gi17_106 (hY.gr.ky) ((Yd.n5 hY)) rfl <| ok_iconst (pc' := 184) i203_183 rfl <| ok_iadd (v := ((t 5) + 1)) (pc' := 185) i203_184 rfl rfl <| ok_min (v := (min 60 ((t 5) + 1))) (pc' := 188) i203_185 o203 m17_155 (by omega) (bt rfl) rfl rfl <| ?_
    have z2 : (min 60 ((t 5) + 1)) ≤ 60 ∧ (min 60 ((t 5) + 1)) ≤ ((t 5) + 1) := by omega
    have z3 : 0 ≤ (min 60 ((t 5) + 1)) := by omega
    refine ok_putfj (kk := 12) (pc' := 191) i203_188 o203 pi203_106 (hY.gr.ky) rfl rfl <| ?_
    have hY4 := Yd.keep5 (v := (min 60 ((t 5) + 1))) hY (by omega)
    have fz := frw e0 (fy_101 hY4.gr.o) hY4
    refine ok_iload (pc' := 193) i203_191 rfl rfl <| ok_ireti i203_193 rt203 <| ?_
    exact K _ _ (by rw [log2t_0 (by omega)]; exact hY4) (Fr.w fz (by omega) (by omega))
  · refine ok_aloadn (pc' := 142) i203_141 rfl rfl <| ok_getfr (r := 106) (pc' := 145) i203_142 o203 gr17_29 (hY.gr.ky) (hY.gr.r3) rfl <| ok_aloadn (pc' := 146) i203_145 rfl rfl <| ok_getfi (v := (t 5)) (pc' := 149) i203_146 o203 gi17_106 (hY.gr.ky) ((Yd.n5 hY)) rfl <| ok_iconst (pc' := 150) i203_149 rfl <| ?_
    refine ok_nia (pc' := 152) i203_150 (by decide) rfl (fun xr5 g5 M5 hx5 hn5 hA5 e5 => ?_)
    have hYa5 := Yd.f0 hY e5
    have f5 := Fr.trans e0 (Fr.of0 e5)
    have hl5 : xr5 < 100 + gN g5 := by omega
    refine ok_dup (pc' := 153) i203_152 rfl rfl <| ok_iconst (pc' := 154) i203_153 rfl <| ok_aloadn (pc' := 155) i203_154 rfl rfl <| ok_getfi (v := (t 0)) (pc' := 158) i203_155 o203 gi17_103 (hYa5.gr.ky) ((Yd.n0 hYa5)) rfl <| ?_
    have b6 := hA5.2.1
    refine ok_iastore (pc' := 159) i203_158 (hA5.1) (rfl) (by omega) rfl <| ?_
    have e7 := Fr.up (x := 0) (v := (t 0)) e5 (Or.inr (Nat.le_of_eq hx5))
    have hYa7 := Yd.f0 hY e7
    have f7 := Fr.trans e0 (Fr.of0 e7)
    have hA7 := IA.up (x := 0) (v := (t 0)) hA5
    refine ok_dup (pc' := 160) i203_159 rfl rfl <| ok_iconst (pc' := 161) i203_160 rfl <| ok_aloadn (pc' := 162) i203_161 rfl rfl <| ok_getfi (v := k) (pc' := 165) i203_162 o203 gi17_178 ((hYa7.gr.rr k (by omega) (by omega)).2.2) ((hYa7.mr.rn k (by omega) (by omega))) rfl <| ?_
    have b8 := hA7.2.1
    refine ok_iastore (pc' := 166) i203_165 (hA7.1) (rfl) (by omega) rfl <| ?_
    have e9 := Fr.up (x := 1) (v := k) e7 (Or.inr (Nat.le_of_eq hx5))
    have hYa9 := Yd.f0 hY e9
    have f9 := Fr.trans e0 (Fr.of0 e9)
    have hA9 := IA.up (x := 1) (v := k) hA7
    refine ok_dup (pc' := 167) i203_166 rfl rfl <| ok_iconst (pc' := 168) i203_167 rfl <| ok_iloadn (pc' := 169) i203_168 rfl rfl <| ?_
    have b10 := hA9.2.1
    refine ok_iastore (pc' := 170) i203_169 (hA9.1) (rfl) (by omega) rfl <| ?_
    have e11 := Fr.up (x := 2) (v := x) e9 (Or.inr (Nat.le_of_eq hx5))
    have hYa11 := Yd.f0 hY e11
    have f11 := Fr.trans e0 (Fr.of0 e11)
    have hA11 := IA.up (x := 2) (v := x) hA9
    refine ok_dup (pc' := 171) i203_170 rfl rfl <| ok_iconst (pc' := 172) i203_171 rfl <| ok_iload (pc' := 174) i203_172 rfl rfl <| ?_
    have b12 := hA11.2.1
    refine ok_iastore (pc' := 175) i203_174 (hA11.1) (rfl) (by omega) rfl <| ?_
    have e13 := Fr.up (x := 3) (v := o) e11 (Or.inr (Nat.le_of_eq hx5))
    have hYa13 := Yd.f0 hY e13
    have f13 := Fr.trans e0 (Fr.of0 e13)
    have hA13 := IA.up (x := 3) (v := o) hA11
    refine ok_aastF (pc' := 176) i203_175 (Or.inr (Or.inl ⟨hYa13.gr.k6, hA13.1⟩)) (by rw [hYa13.gr.l6]; omega) rfl (fun g14 n14 z14 r14 k14 o14 s14 => ?_)
    have hYb14 := Yd.aa hYa13 (Or.inl ⟨rfl, by omega⟩) n14 k14 o14 s14
    have f14 := Fr.aa f13 (fy_6 hYb14.gr.o (by omega)) n14 z14 k14 s14
    have hA14 := IA.aa hA13 k14
    refine ok_aloadn (pc' := 177) i203_176 rfl rfl <| ok_bipush (v := 60) (pc' := 179) i203_177 rfl rfl <| ok_aloadn (pc' := 180) i203_179 rfl rfl <| ok_getfi (v := (t 5)) (pc' := 183) i203_180 o203 gi17_106 (hYb14.gr.ky) ((Yd.n5 hYb14)) rfl <| ok_iconst (pc' := 184) i203_183 rfl <| ok_iadd (v := ((t 5) + 1)) (pc' := 185) i203_184 rfl rfl <| ok_min (v := (min 60 ((t 5) + 1))) (pc' := 188) i203_185 o203 m17_155 (by omega) (bt rfl) rfl rfl <| ?_
    have z15 : (min 60 ((t 5) + 1)) ≤ 60 ∧ (min 60 ((t 5) + 1)) ≤ ((t 5) + 1) := by omega
    have z16 : 0 ≤ (min 60 ((t 5) + 1)) := by omega
    refine ok_putfj (kk := 12) (pc' := 191) i203_188 o203 pi203_106 (hYb14.gr.ky) rfl rfl <| ?_
    rw [show (min 60 ((t 5) + 1)) = t 5 + 1 by omega]
    have hou : Ou g14 O xr5 := ⟨by have := hY.gr.n; omega, by omega, Or.inr (by omega)⟩
    have hYz := Yd.log hYb14 (by omega) r14 hou hA14
    have fz := frw f14 (fy_101 hYz.gr.o) hYz
    refine ok_iload (pc' := 193) i203_191 rfl rfl <| ok_ireti i203_193 rt203 <| ?_
    exact K _ _ (by rw [log2t_1 (by omega)]; exact hYz) (Fr.w fz (by omega) (by decide))
theorem w203_ls {g : AG} {M : AM} {O : Nat} {A : YA} {t q : Int → Int} {k x m o : Int} {Q : AO → AG → AM → Prop} (hY : Yd g M O A t q) (hO : O + 348 ≤ 100 + gN g) (hk : 0 ≤ k ∧ k < t 3) (ho : 0 ≤ o ∧ o < t 4) (K : ∀ (g1 : AG) (M1 : AM), Yd g1 M1 O A (logL t k x o) q → Fr (FY O) 1 4 g M g1 M1 → Q (.inl (some (aI o))) g1 M1) : Ok 1 203 132 [aR 101, aR (A.R k), aI x, aI m, aR (A.D o), aI o] [] g M Q := by
  have y3 := hY.li.1
  have y4 := hY.li.2.1
  have y5 := hY.li.2.2.1
  have e0 : Fr (FY O) 0 0 g M g M := Fr.rfl
  refine ok_aloadn (pc' := 133) i203_132 rfl rfl <| ok_getfi (v := (t 5)) (pc' := 136) i203_133 o203 gi17_106 (hY.gr.ky) ((Yd.n5 hY)) rfl <| ok_bipush (v := 60) (pc' := 138) i203_136 rfl rfl <| ?_
  refine ok_cge (pc1 := 176) (pc2 := 141) i203_138 (by omega) rfl rfl (fun h1 => ?_) (fun h1 => ?_)
  · refine ok_aloadn (pc' := 177) i203_176 rfl rfl <| ok_bipush (v := 60) (pc' := 179) i203_177 rfl rfl <| ok_aloadn (pc' := 180) i203_179 rfl rfl <| ok_getfi (v := (t 5)) (pc' := 183) i203_180 o203 gi17_106 (hY.gr.ky) ((Yd.n5 hY)) rfl <| ok_iconst (pc' := 184) i203_183 rfl <| ok_iadd (v := ((t 5) + 1)) (pc' := 185) i203_184 rfl rfl <| ok_min (v := (min 60 ((t 5) + 1))) (pc' := 188) i203_185 o203 m17_155 (by omega) (bt rfl) rfl rfl <| ?_
    have z2 : (min 60 ((t 5) + 1)) ≤ 60 ∧ (min 60 ((t 5) + 1)) ≤ ((t 5) + 1) := by omega
    have z3 : 0 ≤ (min 60 ((t 5) + 1)) := by omega
    refine ok_putfj (kk := 12) (pc' := 191) i203_188 o203 pi203_106 (hY.gr.ky) rfl rfl <| ?_
    have hY4 := Yd.keep5 (v := (min 60 ((t 5) + 1))) hY (by omega)
    have fz := frw e0 (fy_101 hY4.gr.o) hY4
    refine ok_iload (pc' := 193) i203_191 rfl rfl <| ok_ireti i203_193 rt203 <| ?_
    exact K _ _ (by rw [log2t_0 (by omega)]; exact hY4) (Fr.w fz (by omega) (by omega))
  · refine ok_aloadn (pc' := 142) i203_141 rfl rfl <| ok_getfr (r := 106) (pc' := 145) i203_142 o203 gr17_29 (hY.gr.ky) (hY.gr.r3) rfl <| ok_aloadn (pc' := 146) i203_145 rfl rfl <| ok_getfi (v := (t 5)) (pc' := 149) i203_146 o203 gi17_106 (hY.gr.ky) ((Yd.n5 hY)) rfl <| ok_iconst (pc' := 150) i203_149 rfl <| ?_
    refine ok_nia (pc' := 152) i203_150 (by decide) rfl (fun xr5 g5 M5 hx5 hn5 hA5 e5 => ?_)
    have hYa5 := Yd.f0 hY e5
    have f5 := Fr.trans e0 (Fr.of0 e5)
    have hl5 : xr5 < 100 + gN g5 := by omega
    refine ok_dup (pc' := 153) i203_152 rfl rfl <| ok_iconst (pc' := 154) i203_153 rfl <| ok_aloadn (pc' := 155) i203_154 rfl rfl <| ok_getfi (v := (t 0)) (pc' := 158) i203_155 o203 gi17_103 (hYa5.gr.ky) ((Yd.n0 hYa5)) rfl <| ?_
    have b6 := hA5.2.1
    refine ok_iastore (pc' := 159) i203_158 (hA5.1) (rfl) (by omega) rfl <| ?_
    have e7 := Fr.up (x := 0) (v := (t 0)) e5 (Or.inr (Nat.le_of_eq hx5))
    have hYa7 := Yd.f0 hY e7
    have f7 := Fr.trans e0 (Fr.of0 e7)
    have hA7 := IA.up (x := 0) (v := (t 0)) hA5
    refine ok_dup (pc' := 160) i203_159 rfl rfl <| ok_iconst (pc' := 161) i203_160 rfl <| ok_aloadn (pc' := 162) i203_161 rfl rfl <| ok_getfi (v := k) (pc' := 165) i203_162 o203 gi17_178 ((hYa7.gr.rr k (by omega) (by omega)).2.2) ((hYa7.mr.rn k (by omega) (by omega))) rfl <| ?_
    have b8 := hA7.2.1
    refine ok_iastore (pc' := 166) i203_165 (hA7.1) (rfl) (by omega) rfl <| ?_
    have e9 := Fr.up (x := 1) (v := k) e7 (Or.inr (Nat.le_of_eq hx5))
    have hYa9 := Yd.f0 hY e9
    have f9 := Fr.trans e0 (Fr.of0 e9)
    have hA9 := IA.up (x := 1) (v := k) hA7
    refine ok_dup (pc' := 167) i203_166 rfl rfl <| ok_iconst (pc' := 168) i203_167 rfl <| ok_iloadn (pc' := 169) i203_168 rfl rfl <| ?_
    have b10 := hA9.2.1
    refine ok_iastore (pc' := 170) i203_169 (hA9.1) (rfl) (by omega) rfl <| ?_
    have e11 := Fr.up (x := 2) (v := x) e9 (Or.inr (Nat.le_of_eq hx5))
    have hYa11 := Yd.f0 hY e11
    have f11 := Fr.trans e0 (Fr.of0 e11)
    have hA11 := IA.up (x := 2) (v := x) hA9
    refine ok_dup (pc' := 171) i203_170 rfl rfl <| ok_iconst (pc' := 172) i203_171 rfl <| ok_iload (pc' := 174) i203_172 rfl rfl <| ?_
    have b12 := hA11.2.1
    refine ok_iastore (pc' := 175) i203_174 (hA11.1) (rfl) (by omega) rfl <| ?_
    have e13 := Fr.up (x := 3) (v := o) e11 (Or.inr (Nat.le_of_eq hx5))
    have hYa13 := Yd.f0 hY e13
    have f13 := Fr.trans e0 (Fr.of0 e13)
    have hA13 := IA.up (x := 3) (v := o) hA11
    refine ok_aastF (pc' := 176) i203_175 (Or.inr (Or.inl ⟨hYa13.gr.k6, hA13.1⟩)) (by rw [hYa13.gr.l6]; omega) rfl (fun g14 n14 z14 r14 k14 o14 s14 => ?_)
    have hYb14 := Yd.aa hYa13 (Or.inl ⟨rfl, by omega⟩) n14 k14 o14 s14
    have f14 := Fr.aa f13 (fy_6 hYb14.gr.o (by omega)) n14 z14 k14 s14
    have hA14 := IA.aa hA13 k14
    refine ok_aloadn (pc' := 177) i203_176 rfl rfl <| ok_bipush (v := 60) (pc' := 179) i203_177 rfl rfl <| ok_aloadn (pc' := 180) i203_179 rfl rfl <| ok_getfi (v := (t 5)) (pc' := 183) i203_180 o203 gi17_106 (hYb14.gr.ky) ((Yd.n5 hYb14)) rfl <| ok_iconst (pc' := 184) i203_183 rfl <| ok_iadd (v := ((t 5) + 1)) (pc' := 185) i203_184 rfl rfl <| ok_min (v := (min 60 ((t 5) + 1))) (pc' := 188) i203_185 o203 m17_155 (by omega) (bt rfl) rfl rfl <| ?_
    have z15 : (min 60 ((t 5) + 1)) ≤ 60 ∧ (min 60 ((t 5) + 1)) ≤ ((t 5) + 1) := by omega
    have z16 : 0 ≤ (min 60 ((t 5) + 1)) := by omega
    refine ok_putfj (kk := 12) (pc' := 191) i203_188 o203 pi203_106 (hYb14.gr.ky) rfl rfl <| ?_
    rw [show (min 60 ((t 5) + 1)) = t 5 + 1 by omega]
    have hou : Ou g14 O xr5 := ⟨by have := hY.gr.n; omega, by omega, Or.inr (by omega)⟩
    have hYz := Yd.log hYb14 (by omega) r14 hou hA14
    have fz := frw f14 (fy_101 hYz.gr.o) hYz
    refine ok_iload (pc' := 193) i203_191 rfl rfl <| ok_ireti i203_193 rt203 <| ?_
    exact K _ _ (by rw [log2t_1 (by omega)]; exact hYz) (Fr.w fz (by omega) (by decide))
/-- a cut: the row is the class's -/
theorem t203 {g : AG} {M : AM} {O : Nat} {A : YA} {s q : Int → Int} {b : Int} {k x : Int} (hY : Yd g M O A s q) (hV : Val b q s) (hO : O + 348 ≤ 100 + gN g) (hk : 0 ≤ k ∧ k < s 3) (hx : 1 ≤ x ∧ x ≤ s (94 + k)) : Ok 1 203 0 [aR 101, aR (A.R k), aI x, aU, aU, aU] [] g M (fun o g1 M1 => o = .inl (some (aI (r218 s x))) ∧ Yd g1 M1 O A (cutS q s k x) q ∧ Fr (FY O) 1 4 g M g1 M1) := by
  have y3 := V_3 hV
  have y4 := V_4 hV
  have y5 := V_5 hV
  have zl := V_d1 hV hk.1 hk.2
  refine w203_85 hY hV hk hx (fun M1 h1 f1 => ?_)
  have V1 := V_cutA hV hk hx
  have hr8 : 0 ≤ k ∧ k < 80 := by omega
  have ec : ∀ j : Int, j ≠ 7 ∧ j ≠ 9 ∧ j ≠ 11 ∧ j ≠ 13 → j ≠ 94 + k ∧ j ≠ 174 + k ∧ j ≠ 254 + k ∧ j ≠ 334 + k → cutA q s k x j = s j := fun j a b => cutA_rd hr8 a b
  have c0 := ec 0 (by omega) (by omega)
  have c3 := ec 3 (by omega) (by omega)
  have c4 := ec 4 (by omega) (by omega)
  have c5 := ec 5 (by omega) (by omega)
  have hr : r218 (cutA q s k x) x = r218 s x := r218_congr c4 (fun j j0 j1 => ec j (by omega) (by omega)) y4.2 y4.1
  have hrg := p_218b hV hx.1
  obtain ⟨t, ht⟩ : ∃ t : Int → Int, t = cutA q s k x := ⟨_, rfl⟩
  rw [← ht] at h1 V1 c0 c3 c4 c5 hr
  have e5 : cutS q s k x = logL (put2 s t (r218 s x) x) k x (r218 s x) := by
    have h9 := logL_eq (s := s) (t := put2 s t (r218 s x) x) (r := k) (x := x) (o := r218 s x) (by rw [ht]; exact put2_5 ⟨hk.1, hx.1⟩ (by omega)) (by rw [ht]; exact put2_0 ⟨hk.1, hx.1⟩ (by omega))
    rw [h9, ht]
    rfl
  have p3 : put2 s t (r218 s x) x 3 = s 3 := by rw [ht]; exact put2_3 ⟨hk.1, hx.1⟩ (by omega)
  have p4 : put2 s t (r218 s x) x 4 = s 4 := by rw [ht]; exact put2_4 ⟨hk.1, hx.1⟩ (by omega)
  rw [e5]
  by_cases ho : r218 s x = -1
  · refine w203_n h1 V1 (by omega) (by omega) (by rw [hr]; exact ho) (fun M2 h2 f2 => ?_)
    have e6 : upI t (542 + x) (t (542 + x) + 1) = put2 s t (r218 s x) x := by
      unfold put2
      rw [if_pos ho, show t (542 + x) = s (542 + x) by rw [ht]; exact ec _ (by omega) (by omega)]
    rw [e6] at h2
    have f3 := Fr.trans f1 f2
    exact w203_ln h2 hO (by omega) rfl (fun g3 M3 h3 f4 => ⟨by rw [ho], by rw [ho]; rw [ho] at h3; exact h3, Fr.w (Fr.trans f3 f4) (by omega) (by omega)⟩)
  · refine w203_s h1 V1 (by omega) (by omega) (by rw [hr]; omega) (fun M2 h2 f2 => ?_)
    rw [hr] at h2 ⊢
    have e6 : giveS t (r218 s x) = put2 s t (r218 s x) x := by
      unfold put2 giveS give2
      have hc := ht ▸ ec
      rw [if_neg ho, hc ((414 + (8 * r218 s x)) + 4) (by omega) (by omega), hc ((414 + (8 * r218 s x)) + 3) (by omega) (by omega), hc ((414 + (8 * r218 s x)) + 6) (by omega) (by omega), hc ((414 + (8 * r218 s x)) + 5) (by omega) (by omega), hc ((414 + (8 * r218 s x)) + 2) (by omega) (by omega), hc 10 (by omega) (by omega), hc 12 (by omega) (by omega), c0]
    rw [e6] at h2
    have f3 := Fr.trans f1 f2
    exact w203_ls h2 hO (by omega) (by omega) (fun g3 M3 h3 f4 => ⟨rfl, h3, Fr.w (Fr.trans f3 f4) (by omega) (by omega)⟩)
