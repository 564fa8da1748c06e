/-! THE LAW'S CHANGES: rods and orders that are added (by program, wip/p60/gen) -/
theorem o196 : am_oc 196 = 17 := by decide +kernel
theorem ck17_32 : am_csk 17 32 16 = true := by decide +kernel
theorem m17_121 : am_mlk 17 121 2 193 = true := by decide +kernel
theorem na193 : am_na 193 = 3 := by decide +kernel
theorem nl193 : am_nL 193 = 4 := by decide +kernel
theorem pd193 : ∀ a0 a1 a2 a3 : AV, am_pad 193 [a0, a1, a2, a3] = [a0, a1, a2, a3] := by intros; unfold am_pad; rw [nl193]; rfl
theorem ln193 : 4 ≤ am_nL 193 := by rw [nl193]; decide
theorem o193 : am_oc 193 = 16 := by decide +kernel
theorem m16_1 : am_mlk 16 1 5 0 = true := by decide +kernel
theorem pi193_7 : am_pfi 193 16 7 16 0 = true := by decide +kernel
theorem pi193_13 : am_pfi 193 16 13 16 1 = true := by decide +kernel
theorem pi193_16 : am_pfi 193 16 16 16 2 = true := by decide +kernel
theorem rt193 : am_rt 193 = none := by decide +kernel
theorem pi196_97 : am_pfi 196 17 97 17 10 = true := by decide +kernel
theorem rt196 : am_rt 196 = none := by decide +kernel
theorem o197 : am_oc 197 = 17 := by decide +kernel
theorem ck17_38 : am_csk 17 38 15 = true := by decide +kernel
theorem m17_124 : am_mlk 17 124 2 194 = true := by decide +kernel
theorem na194 : am_na 194 = 5 := by decide +kernel
theorem nl194 : am_nL 194 = 6 := by decide +kernel
theorem pd194 : ∀ a0 a1 a2 a3 a4 a5 : AV, am_pad 194 [a0, a1, a2, a3, a4, a5] = [a0, a1, a2, a3, a4, a5] := by intros; unfold am_pad; rw [nl194]; rfl
theorem ln194 : 6 ≤ am_nL 194 := by rw [nl194]; decide
theorem o194 : am_oc 194 = 15 := by decide +kernel
theorem m15_1 : am_mlk 15 1 5 0 = true := by decide +kernel
theorem pi194_7 : am_pfi 194 15 7 15 0 = true := by decide +kernel
theorem pi194_13 : am_pfi 194 15 13 15 1 = true := by decide +kernel
theorem pi194_16 : am_pfi 194 15 16 15 2 = true := by decide +kernel
theorem pi194_19 : am_pfi 194 15 19 15 3 = true := by decide +kernel
theorem pi194_22 : am_pfi 194 15 22 15 4 = true := by decide +kernel
theorem pi194_25 : am_pfi 194 15 25 15 5 = true := by decide +kernel
theorem rt194 : am_rt 194 = none := by decide +kernel
theorem pi197_100 : am_pfi 197 17 100 17 11 = true := by decide +kernel
theorem rt197 : am_rt 197 = some .int := by decide +kernel
theorem o206 : am_oc 206 = 17 := by decide +kernel
theorem pz206_166 : am_pfz 206 17 166 16 5 = true := by decide +kernel
theorem gi17_166 : am_gfi 17 166 16 5 = true := by decide +kernel
theorem gi17_60 : am_gfi 17 60 17 15 = true := by decide +kernel
theorem m17_202 : am_mlk 17 202 0 207 = true := by decide +kernel
theorem na207 : am_na 207 = 1 := by decide +kernel
theorem nl207 : am_nL 207 = 3 := by decide +kernel
theorem pd207 : ∀ a0 a1 : AV, am_pad 207 [a0, a1] = [a0, a1, aU] := by intros; unfold am_pad; rw [nl207]; rfl
theorem ln207 : 2 ≤ am_nL 207 := by rw [nl207]; decide
theorem pi206_103 : am_pfi 206 17 103 17 13 = true := by decide +kernel
theorem rt206 : am_rt 206 = some .int := by decide +kernel
theorem t196 {g : AG} {M : AM} {O : Nat} {A : YA} {s q : Int → Int} {b : Int} {x1 : Int} (hY : Yd g M O A s q) (hV : Val b q s) (hO : O + 348 ≤ 100 + gN g ∨ 100 + gN g < O) (hx : 0 ≤ x1 ∧ x1 < q 0) (h3 : s 3 < 80) : Ok 1 196 0 [aR 101, aI x1] [] g M (fun o g1 M1 => o = .inl none ∧ ∃ A1 : YA, A1.2 = A.2 ∧ Yd g1 M1 O A1 (addT s x1 (q (2 + x1))) q ∧ Fr (FY O) 1 16 g M g1 M1) := by
  have hQ := V_q hV
  have y3 := V_3 hV
  have y4 := V_4 hV
  have y5 := V_5 hV
  have yq0 := Q_0 hQ
  have yq1 := Q_1 hQ
  have e0 : Fr (FY O) 0 0 g M g M := Fr.rfl
  refine ok_aloadn (pc' := 1) i196_0 rfl rfl <| ok_getfr (r := 107) (pc' := 4) i196_1 o196 gr17_34 (hY.gr.ky) (hY.gr.r4) rfl <| ok_aloadn (pc' := 5) i196_4 rfl rfl <| ok_getfi (v := (s 3)) (pc' := 8) i196_5 o196 gi17_97 (hY.gr.ky) ((Yd.n3 hY)) rfl <| ?_
  refine ok_nw (sl := 6) (pc' := 11) i196_8 o196 ck17_32 (by decide) (by decide) rfl (fun xr1 g1 M1 hx1 hn1 hA1 e1 => ?_)
  have hYa1 := Yd.f0 hY e1
  have f1 := Fr.trans e0 (Fr.of0 e1)
  refine ok_dup (pc' := 12) i196_11 rfl rfl <| ok_aloadn (pc' := 13) i196_12 rfl rfl <| ok_getfi (v := (s 3)) (pc' := 16) i196_13 o196 gi17_97 (hYa1.gr.ky) ((Yd.n3 hYa1)) rfl <| ok_iloadn (pc' := 17) i196_16 rfl rfl <| ok_aloadn (pc' := 18) i196_17 rfl rfl <| ok_getfr (r := 104) (pc' := 21) i196_18 o196 gr17_22 (hYa1.gr.ky) (hYa1.gr.r1) rfl <| ok_iloadn (pc' := 22) i196_21 rfl rfl <| ok_aaload (r := (A.K x1)) (pc' := 23) i196_22 (hYa1.gr.k4) (by decide) (hYa1.gr.l4) (by omega) ((hYa1.gr.kk x1 (by omega) (by omega)).1) rfl <| ?_
  refine ok_iconst (pc' := 24) i196_23 rfl <| ?_
  have z2 : 1 ≤ q (2 + x1) ∧ q (2 + x1) ≤ 200 := Q_2 hQ (by omega) (by omega)
  refine ok_iaload (v := (q (2 + x1))) (pc' := 25) i196_24 ((hYa1.gr.kk x1 (by omega) (by omega)).2.2.1) (by decide) ((hYa1.gr.kk x1 (by omega) (by omega)).2.2.2) (by decide) ((hYa1.mr.kk x1 (by omega) (by omega)).1) rfl <| ok_cc i196_25 rfl (cl_i o196 (Or.inl m17_121) na193 rfl rfl (bt rfl) (bt rfl) rfl (by rw [hA1.1]; decide)) ln193 (pd193 (aR xr1) (aI (s 3)) (aI x1) (aI (q (2 + x1)))) <| ok_aloadn (pc' := 1) i193_0 rfl rfl <| ok_objinit (pc' := 4) i193_1 o193 m16_1 (by rw [hA1.1]; decide) (bt rfl) rfl <| ok_aloadn (pc' := 5) i193_4 rfl rfl <| ok_iloadn (pc' := 6) i193_5 rfl rfl <| ok_putfj (kk := 0) (pc' := 9) i193_6 o193 pi193_7 (hA1.1) rfl rfl <| ?_
  have e3 := Fr.up (x := 0) (v := (s 3)) e1 (Or.inr (Nat.le_of_eq hx1))
  have hYa3 := Yd.f0 hY e3
  have f3 := Fr.trans e0 (Fr.of0 e3)
  have hA3 := OA.up (x := 0) (v := (s 3)) hA1
  refine ok_aloadn (pc' := 10) i193_9 rfl rfl <| ok_iloadn (pc' := 11) i193_10 rfl rfl <| ok_putfj (kk := 1) (pc' := 14) i193_11 o193 pi193_13 (hA3.1) rfl rfl <| ?_
  have e4 := Fr.up (x := 1) (v := x1) e3 (Or.inr (Nat.le_of_eq hx1))
  have hYa4 := Yd.f0 hY e4
  have f4 := Fr.trans e0 (Fr.of0 e4)
  have hA4 := OA.up (x := 1) (v := x1) hA3
  refine ok_aloadn (pc' := 15) i193_14 rfl rfl <| ok_iloadn (pc' := 16) i193_15 rfl rfl <| ok_putfj (kk := 2) (pc' := 19) i193_16 o193 pi193_16 (hA4.1) rfl rfl <| ?_
  have e5 := Fr.up (x := 2) (v := (q (2 + x1))) e4 (Or.inr (Nat.le_of_eq hx1))
  have hYa5 := Yd.f0 hY e5
  have f5 := Fr.trans e0 (Fr.of0 e5)
  have hA5 := OA.up (x := 2) (v := (q (2 + x1))) hA4
  refine ok_vret i193_19 rt193 <| kt_0 (pc' := 28) rfl <| ?_
  refine ok_aastF (pc' := 29) i196_28 (Or.inr (Or.inr (Or.inl ⟨hYa5.gr.k7, hA5.1⟩))) (by rw [hYa5.gr.l7]; omega) rfl (fun g6 n6 z6 r6 k6 o6 s6 => ?_)
  have hYb6 := Yd.aa hYa5 (Or.inr (Or.inl ⟨rfl, by omega⟩)) n6 k6 o6 s6
  have f6 := Fr.aa f5 (fy_6 hYb6.gr.o (by omega)) n6 z6 k6 s6
  have hA6 := OA.aa hA5 k6
  refine ok_aloadn (pc' := 30) i196_29 rfl rfl <| ok_dup (pc' := 31) i196_30 rfl rfl <| ok_getfi (v := (s 3)) (pc' := 34) i196_31 o196 gi17_97 (hYb6.gr.ky) ((Yd.n3 hYb6)) rfl <| ok_iconst (pc' := 35) i196_34 rfl <| ok_iadd (v := ((s 3) + 1)) (pc' := 36) i196_35 rfl rfl <| ok_putfj (kk := 10) (pc' := 39) i196_36 o196 pi196_97 (hYb6.gr.ky) rfl rfl <| ?_
  have hou : Ou g6 O xr1 := ⟨by have := hY.gr.n; omega, by omega, by omega⟩
  have hno : ∀ j : Int, 0 ≤ j → j < s 3 → A.R j ≠ xr1 := fun j j0 j1 e => by have := (hY.gr.rr j j0 j1).2.1.2.1; omega
  have hYz := Yd.addR (k := x1) (l := q (2 + x1)) hYb6 h3 r6 hou hA6.1 hno (hA6.2 0) (hA6.2 1) (hA6.2 2) (hA6.2 3) (hA6.2 4) (hA6.2 5)
  have fz := frw f6 (fy_101 hYz.gr.o) hYz
  refine ok_vret i196_39 rt196 <| ?_
  exact ⟨rfl, (fun j => if j = s 3 then xr1 else A.R j, A.2), rfl, hYz, Fr.w fz (by omega) (by omega)⟩
theorem w197_39 {g : AG} {M : AM} {O : Nat} {A : YA} {s q : Int → Int} {b : Int} {x1 x2 x3 x4 : Int} {Q : AO → AG → AM → Prop} (hY : Yd g M O A s q) (hV : Val b q s) (hO : O + 348 ≤ 100 + gN g ∨ 100 + gN g < O) (h4 : s 4 < 16) (K : ∀ (a : Nat) (A1 : YA) (g1 : AG) (M1 : AM), A1.1 = A.1 → A1.2.2 = A.2.2 → A1.D (s 4) = a → Yd g1 M1 O A1 (ordS s x1 x2 x3 x4) q → Fr (FY O) 1 16 g M g1 M1 → Ok 1 197 39 [aR 101, aI x1, aI x2, aI x3, aI x4, aR a] [] g1 M1 Q) : Ok 1 197 0 [aR 101, aI x1, aI x2, aI x3, aI x4, aU] [] g M Q := by
  have hQ := V_q hV
  have y3 := V_3 hV
  have y4 := V_4 hV
  have y5 := V_5 hV
  have yq0 := Q_0 hQ
  have yq1 := Q_1 hQ
  have e0 : Fr (FY O) 0 0 g M g M := Fr.rfl
  refine ok_nw (sl := 9) (pc' := 3) i197_0 o197 ck17_38 (by decide) (by decide) rfl (fun xr1 g1 M1 hx1 hn1 hA1 e1 => ?_)
  have hYa1 := Yd.f0 hY e1
  have f1 := Fr.trans e0 (Fr.of0 e1)
  refine ok_dup (pc' := 4) i197_3 rfl rfl <| ok_aloadn (pc' := 5) i197_4 rfl rfl <| ok_getfi (v := (s 4)) (pc' := 8) i197_5 o197 gi17_100 (hYa1.gr.ky) ((Yd.n4 hYa1)) rfl <| ok_iloadn (pc' := 9) i197_8 rfl rfl <| ok_iloadn (pc' := 10) i197_9 rfl rfl <| ok_iloadn (pc' := 11) i197_10 rfl rfl <| ok_iload (pc' := 13) i197_11 rfl rfl <| ok_cc i197_13 rfl (cl_i o197 (Or.inl m17_124) na194 rfl rfl (bt rfl) (bt rfl) rfl (by rw [hA1.1]; decide)) ln194 (pd194 (aR xr1) (aI (s 4)) (aI x1) (aI x2) (aI x3) (aI x4)) <| ?_
  refine ok_aloadn (pc' := 1) i194_0 rfl rfl <| ok_objinit (pc' := 4) i194_1 o194 m15_1 (by rw [hA1.1]; decide) (bt rfl) rfl <| ok_aloadn (pc' := 5) i194_4 rfl rfl <| ok_iloadn (pc' := 6) i194_5 rfl rfl <| ok_putfj (kk := 0) (pc' := 9) i194_6 o194 pi194_7 (hA1.1) rfl rfl <| ?_
  have e2 := Fr.up (x := 0) (v := (s 4)) e1 (Or.inr (Nat.le_of_eq hx1))
  have hYa2 := Yd.f0 hY e2
  have f2 := Fr.trans e0 (Fr.of0 e2)
  have hA2 := OA.up (x := 0) (v := (s 4)) hA1
  refine ok_aloadn (pc' := 10) i194_9 rfl rfl <| ok_iloadn (pc' := 11) i194_10 rfl rfl <| ok_putfj (kk := 1) (pc' := 14) i194_11 o194 pi194_13 (hA2.1) rfl rfl <| ?_
  have e3 := Fr.up (x := 1) (v := x1) e2 (Or.inr (Nat.le_of_eq hx1))
  have hYa3 := Yd.f0 hY e3
  have f3 := Fr.trans e0 (Fr.of0 e3)
  have hA3 := OA.up (x := 1) (v := x1) hA2
  refine ok_aloadn (pc' := 15) i194_14 rfl rfl <| ok_iloadn (pc' := 16) i194_15 rfl rfl <| ok_putfj (kk := 2) (pc' := 19) i194_16 o194 pi194_16 (hA3.1) rfl rfl <| ?_
  have e4 := Fr.up (x := 2) (v := x2) e3 (Or.inr (Nat.le_of_eq hx1))
  have hYa4 := Yd.f0 hY e4
  have f4 := Fr.trans e0 (Fr.of0 e4)
  have hA4 := OA.up (x := 2) (v := x2) hA3
  refine ok_aloadn (pc' := 20) i194_19 rfl rfl <| ok_iload (pc' := 22) i194_20 rfl rfl <| ok_putfj (kk := 3) (pc' := 25) i194_22 o194 pi194_19 (hA4.1) rfl rfl <| ?_
  have e5 := Fr.up (x := 3) (v := x3) e4 (Or.inr (Nat.le_of_eq hx1))
  have hYa5 := Yd.f0 hY e5
  have f5 := Fr.trans e0 (Fr.of0 e5)
  have hA5 := OA.up (x := 3) (v := x3) hA4
  refine ok_aloadn (pc' := 26) i194_25 rfl rfl <| ok_iload (pc' := 28) i194_26 rfl rfl <| ok_putfj (kk := 4) (pc' := 31) i194_28 o194 pi194_22 (hA5.1) rfl rfl <| ?_
  have e6 := Fr.up (x := 4) (v := x4) e5 (Or.inr (Nat.le_of_eq hx1))
  have hYa6 := Yd.f0 hY e6
  have f6 := Fr.trans e0 (Fr.of0 e6)
  have hA6 := OA.up (x := 4) (v := x4) hA5
  refine ok_aloadn (pc' := 32) i194_31 rfl rfl <| ok_iloadn (pc' := 33) i194_32 rfl rfl <| ok_putfj (kk := 5) (pc' := 36) i194_33 o194 pi194_25 (hA6.1) rfl rfl <| ?_
  have e7 := Fr.up (x := 5) (v := x2) e6 (Or.inr (Nat.le_of_eq hx1))
  have hYa7 := Yd.f0 hY e7
  have f7 := Fr.trans e0 (Fr.of0 e7)
  have hA7 := OA.up (x := 5) (v := x2) hA6
  refine ok_vret i194_36 rt194 <| kt_0 (pc' := 16) rfl <| ok_astore (pc' := 18) (ls' := [aR 101, aI x1, aI x2, aI x3, aI x4, aR xr1]) i197_16 (bt rfl) rfl rfl <| ok_aloadn (pc' := 19) i197_18 rfl rfl <| ok_getfr (r := 108) (pc' := 22) i197_19 o197 gr17_40 (hYa7.gr.ky) (hYa7.gr.r5) rfl <| ok_aloadn (pc' := 23) i197_22 rfl rfl <| ok_getfi (v := (s 4)) (pc' := 26) i197_23 o197 gi17_100 (hYa7.gr.ky) ((Yd.n4 hYa7)) rfl <| ok_aload (pc' := 28) i197_26 rfl rfl <| ?_
  refine ok_aastF (pc' := 29) i197_28 (Or.inr (Or.inr (Or.inr ⟨hYa7.gr.k8, hA7.1⟩))) (by rw [hYa7.gr.l8]; omega) rfl (fun g8 n8 z8 r8 k8 o8 s8 => ?_)
  have hYb8 := Yd.aa hYa7 (Or.inr (Or.inr ⟨rfl, by omega⟩)) n8 k8 o8 s8
  have f8 := Fr.aa f7 (fy_6 hYb8.gr.o (by omega)) n8 z8 k8 s8
  have hA8 := OA.aa hA7 k8
  refine ok_aloadn (pc' := 30) i197_29 rfl rfl <| ok_dup (pc' := 31) i197_30 rfl rfl <| ok_getfi (v := (s 4)) (pc' := 34) i197_31 o197 gi17_100 (hYb8.gr.ky) ((Yd.n4 hYb8)) rfl <| ok_iconst (pc' := 35) i197_34 rfl <| ok_iadd (v := ((s 4) + 1)) (pc' := 36) i197_35 rfl rfl <| ok_putfj (kk := 11) (pc' := 39) i197_36 o197 pi197_100 (hYb8.gr.ky) rfl rfl <| ?_
  have hou : Ou g8 O xr1 := ⟨by have := hY.gr.n; omega, by omega, by omega⟩
  have hno : ∀ j : Int, 0 ≤ j → j < s 4 → A.D j ≠ xr1 := fun j j0 j1 e => by have := (hY.gr.dd j j0 j1).2.1.2.1; omega
  have hYz := Yd.addD (l := x1) (n := x2) (v := x3) (w := x4) hYb8 h4 r8 hou hA8.1 hno (hA8.2 0) (hA8.2 1) (hA8.2 2) (hA8.2 3) (hA8.2 4) (hA8.2 5) (hA8.2 6) (hA8.2 7) (hA8.2 8)
  have fz := frw f8 (fy_101 hYz.gr.o) hYz
  exact K _ (A.1, fun j => if j = s 4 then xr1 else A.D j, A.2.2) _ _ rfl rfl (if_pos rfl) hYz (Fr.w fz (by omega) (by omega))
theorem sup_go {t : Int → Int} {o l i : Int} (ho : 0 ≤ o ∧ o < 16) (hl : 1 ≤ l ∧ l ≤ 200) : upI (giveS t o) (542 + l) (t (542 + l) - 1) = supF l o i t := by
  obtain ⟨v, hv⟩ : ∃ v : Int, v = t (542 + l) - 1 := ⟨_, rfl⟩
  unfold supF giveS give2
  rw [← hv]
  have e : ∀ z : Int, z ≠ 542 + l → upI t (542 + l) v z = t z := fun z h => upI_ne h
  simp only [e ((414 + (8 * o)) + 4) (by omega), e ((414 + (8 * o)) + 3) (by omega), e ((414 + (8 * o)) + 6) (by omega), e ((414 + (8 * o)) + 5) (by omega), e ((414 + (8 * o)) + 2) (by omega), e 0 (by omega), e 10 (by omega), e 12 (by omega)]
  rw [upI_comm (a := 12) (b := 542 + l) (by omega), upI_comm (a := 10) (b := 542 + l) (by omega), upI_comm (a := if t ((414 + (8 * o)) + 3) < t 0 then (414 + (8 * o)) + 6 else (414 + (8 * o)) + 5) (b := 542 + l) (by split <;> omega), upI_comm (a := (414 + (8 * o)) + 4) (b := 542 + l) (by omega)]
theorem w197_l {g : AG} {M : AM} {O : Nat} {A : YA} {s q : Int → Int} {b : Int} {x1 x2 x3 x4 o : Int} (hY : Yd g M O A s q) (hV : Val b q s) (ho : 0 ≤ o ∧ o < s 4) (hl : 1 ≤ x1 ∧ x1 ≤ 200) : Ok 1 197 39 [aR 101, aI x1, aI x2, aI x3, aI x4, aR (A.D o)] [] g M (fun r g1 M1 => r = .inl (some (aI o)) ∧ g1 = g ∧ Yd g M1 O A (supS s o x1) q ∧ Fr (FY O) 0 0 g M g M1) := by
  have yy4 := V_4 hV
  have ys := V_s hV (i := x1) (by omega) (by omega)
  have yl := V_o4 hV ho.1 ho.2
  refine ok_lp (σ := Int) (fun k ls g9 M9 => (0 ≤ k ∧ k ≤ supM s o x1) ∧ g9 = g ∧ Yd g M9 O A (itv (supF x1 o) s 0 k.toNat) q ∧ Fr (FY O) 0 0 g M g M9 ∧ ls = [aR 101, aI x1, aI x2, aI x3, aI x4, aR (A.D o)]) (fun k => (supM s o x1 - k).toNat) ?_ 0 _ g M ⟨by unfold supM; omega, rfl, hY, Fr.rfl, rfl⟩
  rintro k ls g9 M9 ⟨hk, rfl, hYt, hfr, rfl⟩ ih
  have haft := sup_aft hV ho ⟨by omega, hl.2⟩ k.toNat (by omega)
  obtain ⟨t, ht⟩ : ∃ t : Int → Int, t = itv (supF x1 o) s 0 k.toNat := ⟨_, rfl⟩
  rw [← ht] at hYt haft
  obtain ⟨hVt, ha1, ha2, ha4⟩ := haft
  have hQ := V_q hVt
  have y3 := V_3 hVt
  have y4 := V_4 hVt
  have y5 := V_5 hVt
  have ho4 : 0 ≤ o ∧ o < t 4 := by omega
  have hm : supM s o x1 = min (s (542 + x1)) (s ((414 + (8 * o)) + 4)) := rfl
  have e0 : Fr (FY O) 0 0 g9 M9 g9 M9 := Fr.rfl
  refine ok_aloadn (pc' := 40) i197_39 rfl rfl <| ok_getfr (r := 109) (pc' := 43) i197_40 o197 gr17_44 (hYt.gr.ky) (hYt.gr.r6) rfl <| ok_iloadn (pc' := 44) i197_43 rfl rfl <| ?_
  have z1 : 0 ≤ t (542 + x1) ∧ t (542 + x1) ≤ 1000000 := V_s hVt (by omega) (by omega)
  refine ok_iaload (v := (t (542 + x1))) (pc' := 45) i197_44 (hYt.gr.k9) (by decide) (hYt.gr.l9) (by omega) ((Yd.st hYt (i := x1) (by omega) (by omega))) rfl <| ?_
  refine ok_zle (pc1 := 75) (pc2 := 48) i197_45 (by omega) rfl rfl (fun h2 => ?_) (fun h2 => ?_)
  · refine ok_aload (pc' := 77) i197_75 rfl rfl <| ok_getfi (v := o) (pc' := 80) i197_77 o197 gi17_133 ((hYt.gr.dd o (by omega) (by omega)).2.2) ((hYt.mr.dn o (by omega) (by omega))) rfl <| ok_ireti i197_80 rt197 <| ?_
    exact ⟨rfl, rfl, by unfold supS; rw [show (supM s o x1).toNat = k.toNat by unfold supM; omega, ← ht]; exact hYt, hfr⟩
  · refine ok_aload (pc' := 50) i197_48 rfl rfl <| ?_
    have z3 : 0 ≤ t ((414 + (8 * o)) + 4) ∧ t ((414 + (8 * o)) + 4) ≤ 9 := V_o4 hVt (by omega) (by omega)
    refine ok_getfi (v := (t ((414 + (8 * o)) + 4))) (pc' := 53) i197_50 o197 gi17_127 ((hYt.gr.dd o (by omega) (by omega)).2.2) ((Yd.d5 hYt (k := o) (by omega) (by omega))) rfl <| ?_
    refine ok_zle (pc1 := 75) (pc2 := 56) i197_53 (by omega) rfl rfl (fun h4 => ?_) (fun h4 => ?_)
    · refine ok_aload (pc' := 77) i197_75 rfl rfl <| ok_getfi (v := o) (pc' := 80) i197_77 o197 gi17_133 ((hYt.gr.dd o (by omega) (by omega)).2.2) ((hYt.mr.dn o (by omega) (by omega))) rfl <| ok_ireti i197_80 rt197 <| ?_
      exact ⟨rfl, rfl, by unfold supS; rw [show (supM s o x1).toNat = k.toNat by unfold supM; omega, ← ht]; exact hYt, hfr⟩
    · refine ok_aloadn (pc' := 57) i197_56 rfl rfl <| ok_aload (pc' := 59) i197_57 rfl rfl <| ok_cc i197_59 rfl (cl_v o197 m17_130 na198 rfl rfl (bt rfl) (bt rfl) rfl (by rw [hYt.gr.ky, o198])) ln198 (pd198 (aR 101) (aR (A.D o))) <| ok_aloadn (pc' := 1) i198_0 rfl rfl <| ?_
      have z5 : 0 ≤ t 0 ∧ t 0 ≤ 1000000 := V_0 hVt
      refine ok_getfi (v := (t 0)) (pc' := 4) i198_1 o198 gi17_103 (hYt.gr.ky) ((Yd.n0 hYt)) rfl <| ok_aloadn (pc' := 5) i198_4 rfl rfl <| ?_
      have z6 : 0 ≤ t ((414 + (8 * o)) + 3) ∧ t ((414 + (8 * o)) + 3) ≤ 999 := V_o3 hVt (by omega) (by omega)
      refine ok_getfi (v := (t ((414 + (8 * o)) + 3))) (pc' := 8) i198_5 o198 gi17_136 ((hYt.gr.dd o (by omega) (by omega)).2.2) ((Yd.d4 hYt (k := o) (by omega) (by omega))) rfl <| ?_
      refine ok_cle (pc1 := 15) (pc2 := 11) i198_8 (by omega) rfl rfl (fun h7 => ?_) (fun h7 => ?_)
      · refine ok_iconst (pc' := 16) i198_15 rfl <| ok_istoren (pc' := 17) (ls' := [aR 101, aR (A.D o), aI 0]) i198_16 (bt rfl) rfl rfl <| ok_aloadn (pc' := 18) i198_17 rfl rfl <| ok_dup (pc' := 19) i198_18 rfl rfl <| ok_getfi (v := (t ((414 + (8 * o)) + 4))) (pc' := 22) i198_19 o198 gi17_127 ((hYt.gr.dd o (by omega) (by omega)).2.2) ((Yd.d5 hYt (k := o) (by omega) (by omega))) rfl <| ok_iconst (pc' := 23) i198_22 rfl <| ok_isub (v := ((t ((414 + (8 * o)) + 4)) - 1)) (pc' := 24) i198_23 rfl rfl <| ok_putfj (kk := 5) (pc' := 27) i198_24 o198 pi198_127 ((hYt.gr.dd o (by omega) (by omega)).2.2) rfl rfl <| ?_
        have hY8 := Yd.wd5 hYt (k := o) (v := ((t ((414 + (8 * o)) + 4)) - 1)) (by omega) (by omega)
        have e9 := frw e0 (hYt.gr.dd o (by omega) (by omega)).2.1.fy hY8
        have n10 : (upI t ((414 + (8 * o)) + 4) ((t ((414 + (8 * o)) + 4)) - 1)) 3 = t 3 := upI_ne (by omega)
        have n11 : (upI t ((414 + (8 * o)) + 4) ((t ((414 + (8 * o)) + 4)) - 1)) 4 = t 4 := upI_ne (by omega)
        have n12 : (upI t ((414 + (8 * o)) + 4) ((t ((414 + (8 * o)) + 4)) - 1)) 5 = t 5 := upI_ne (by omega)
        refine ok_aloadn (pc' := 28) i198_27 rfl rfl <| ok_dup (pc' := 29) i198_28 rfl rfl <| ?_
        have z13 : 0 ≤ t ((414 + (8 * o)) + 6) ∧ t ((414 + (8 * o)) + 6) ≤ 9 := V_o6 hVt (by omega) (by omega)
        refine ok_getfi (v := (t ((414 + (8 * o)) + 6))) (pc' := 32) i198_29 o198 gi17_139 ((hY8.gr.dd o (by omega) (by omega)).2.2) ((Eq.trans (Yd.d7 hY8 (k := o) (by omega) (by omega)) (by rw [upI_ne (by omega)]))) rfl <| ok_iloadn (pc' := 33) i198_32 rfl rfl <| ok_kz1 (pc1 := 40) (pc2 := 36) i198_33 (by decide) rfl rfl <| ok_iconst (pc' := 41) i198_40 rfl <| ok_iadd (v := ((t ((414 + (8 * o)) + 6)) + 0)) (pc' := 42) i198_41 rfl rfl <| ok_putfj (kk := 7) (pc' := 45) i198_42 o198 pi198_139 ((hY8.gr.dd o (by omega) (by omega)).2.2) rfl rfl <| ?_
        have hY14 := Yd.wd7 hY8 (k := o) (v := ((t ((414 + (8 * o)) + 6)) + 0)) (by omega) (by omega)
        have e15 := frw e9 (hY8.gr.dd o (by omega) (by omega)).2.1.fy hY14
        have n16 : (upI (upI t ((414 + (8 * o)) + 4) ((t ((414 + (8 * o)) + 4)) - 1)) ((414 + (8 * o)) + 6) ((t ((414 + (8 * o)) + 6)) + 0)) 3 = t 3 := (upI_ne (by omega)).trans n10
        have n17 : (upI (upI t ((414 + (8 * o)) + 4) ((t ((414 + (8 * o)) + 4)) - 1)) ((414 + (8 * o)) + 6) ((t ((414 + (8 * o)) + 6)) + 0)) 4 = t 4 := (upI_ne (by omega)).trans n11
        have n18 : (upI (upI t ((414 + (8 * o)) + 4) ((t ((414 + (8 * o)) + 4)) - 1)) ((414 + (8 * o)) + 6) ((t ((414 + (8 * o)) + 6)) + 0)) 5 = t 5 := (upI_ne (by omega)).trans n12
        refine ok_aloadn (pc' := 46) i198_45 rfl rfl <| ok_dup (pc' := 47) i198_46 rfl rfl <| ?_
        have z19 : 0 ≤ t ((414 + (8 * o)) + 5) ∧ t ((414 + (8 * o)) + 5) ≤ 9 := V_o5 hVt (by omega) (by omega)
        refine ok_getfi (v := (t ((414 + (8 * o)) + 5))) (pc' := 50) i198_47 o198 gi17_142 ((hY14.gr.dd o (by omega) (by omega)).2.2) ((Eq.trans (Yd.d6 hY14 (k := o) (by omega) (by omega)) (by rw [upI_ne (by omega), upI_ne (by omega)]))) rfl <| ok_iloadn (pc' := 51) i198_50 rfl rfl <| ok_kz1 (pc1 := 58) (pc2 := 54) i198_51 (by decide) rfl rfl <| ok_iconst (pc' := 59) i198_58 rfl <| ok_iadd (v := ((t ((414 + (8 * o)) + 5)) + 1)) (pc' := 60) i198_59 rfl rfl <| ok_putfj (kk := 6) (pc' := 63) i198_60 o198 pi198_142 ((hY14.gr.dd o (by omega) (by omega)).2.2) rfl rfl <| ?_
        have hY20 := Yd.wd6 hY14 (k := o) (v := ((t ((414 + (8 * o)) + 5)) + 1)) (by omega) (by omega)
        have e21 := frw e15 (hY14.gr.dd o (by omega) (by omega)).2.1.fy hY20
        have n22 : (upI (upI (upI t ((414 + (8 * o)) + 4) ((t ((414 + (8 * o)) + 4)) - 1)) ((414 + (8 * o)) + 6) ((t ((414 + (8 * o)) + 6)) + 0)) ((414 + (8 * o)) + 5) ((t ((414 + (8 * o)) + 5)) + 1)) 3 = t 3 := (upI_ne (by omega)).trans n16
        have n23 : (upI (upI (upI t ((414 + (8 * o)) + 4) ((t ((414 + (8 * o)) + 4)) - 1)) ((414 + (8 * o)) + 6) ((t ((414 + (8 * o)) + 6)) + 0)) ((414 + (8 * o)) + 5) ((t ((414 + (8 * o)) + 5)) + 1)) 4 = t 4 := (upI_ne (by omega)).trans n17
        have n24 : (upI (upI (upI t ((414 + (8 * o)) + 4) ((t ((414 + (8 * o)) + 4)) - 1)) ((414 + (8 * o)) + 6) ((t ((414 + (8 * o)) + 6)) + 0)) ((414 + (8 * o)) + 5) ((t ((414 + (8 * o)) + 5)) + 1)) 5 = t 5 := (upI_ne (by omega)).trans n18
        refine ok_aloadn (pc' := 64) i198_63 rfl rfl <| ok_getfr (r := 110) (pc' := 67) i198_64 o198 gr17_47 (hY20.gr.ky) (hY20.gr.r7) rfl <| ok_iconst (pc' := 68) i198_67 rfl <| ok_dup2 (pc' := 69) i198_68 ⟨rfl, rfl⟩ rfl <| ok_iaload (v := (t 10)) (pc' := 70) i198_69 (hY20.gr.ka) (by decide) (hY20.gr.la) (by decide) ((Eq.trans (Yd.acz hY20 (i := 4) (z := 10) (by omega) (by omega) (by omega)) (by rw [upI_ne (by omega), upI_ne (by omega), upI_ne (by omega)]))) rfl <| ok_iloadn (pc' := 71) i198_70 rfl rfl <| ok_kz1 (pc1 := 83) (pc2 := 74) i198_71 (by decide) rfl rfl <| ok_aloadn (pc' := 84) i198_83 rfl rfl <| ?_
        have z25 : 0 ≤ t ((414 + (8 * o)) + 2) ∧ t ((414 + (8 * o)) + 2) ≤ 99 := V_o2 hVt (by omega) (by omega)
        refine ok_getfi (v := (t ((414 + (8 * o)) + 2))) (pc' := 87) i198_84 o198 gi17_145 ((hY20.gr.dd o (by omega) (by omega)).2.2) ((Eq.trans (Yd.d3 hY20 (k := o) (by omega) (by omega)) (by rw [upI_ne (by omega), upI_ne (by omega), upI_ne (by omega)]))) rfl <| ok_iadd (v := ((t 10) + (t ((414 + (8 * o)) + 2)))) (pc' := 88) i198_87 rfl rfl <| ok_iastore (pc' := 89) i198_88 (hY20.gr.ka) (hY20.gr.la) (by decide) rfl <| ?_
        have hY26 := Yd.waz hY20 (i := 4) (z := 10) (v := ((t 10) + (t ((414 + (8 * o)) + 2)))) (by omega) (by omega) (by omega)
        have e27 := frw e21 (fy_110 hY20.gr.o) hY26
        have n28 : (upI (upI (upI (upI t ((414 + (8 * o)) + 4) ((t ((414 + (8 * o)) + 4)) - 1)) ((414 + (8 * o)) + 6) ((t ((414 + (8 * o)) + 6)) + 0)) ((414 + (8 * o)) + 5) ((t ((414 + (8 * o)) + 5)) + 1)) 10 ((t 10) + (t ((414 + (8 * o)) + 2)))) 3 = t 3 := (upI_ne (by omega)).trans n22
        have n29 : (upI (upI (upI (upI t ((414 + (8 * o)) + 4) ((t ((414 + (8 * o)) + 4)) - 1)) ((414 + (8 * o)) + 6) ((t ((414 + (8 * o)) + 6)) + 0)) ((414 + (8 * o)) + 5) ((t ((414 + (8 * o)) + 5)) + 1)) 10 ((t 10) + (t ((414 + (8 * o)) + 2)))) 4 = t 4 := (upI_ne (by omega)).trans n23
        have n30 : (upI (upI (upI (upI t ((414 + (8 * o)) + 4) ((t ((414 + (8 * o)) + 4)) - 1)) ((414 + (8 * o)) + 6) ((t ((414 + (8 * o)) + 6)) + 0)) ((414 + (8 * o)) + 5) ((t ((414 + (8 * o)) + 5)) + 1)) 10 ((t 10) + (t ((414 + (8 * o)) + 2)))) 5 = t 5 := (upI_ne (by omega)).trans n24
        refine ok_aloadn (pc' := 90) i198_89 rfl rfl <| ok_getfr (r := 110) (pc' := 93) i198_90 o198 gr17_47 (hY26.gr.ky) (hY26.gr.r7) rfl <| ok_bipush (v := 6) (pc' := 95) i198_93 rfl rfl <| ok_dup2 (pc' := 96) i198_95 ⟨rfl, rfl⟩ rfl <| ok_iaload (v := (t 12)) (pc' := 97) i198_96 (hY26.gr.ka) (by decide) (hY26.gr.la) (by decide) ((Eq.trans (Yd.acz hY26 (i := 6) (z := 12) (by omega) (by omega) (by omega)) (by rw [upI_ne (by omega), upI_ne (by omega), upI_ne (by omega), upI_ne (by omega)]))) rfl <| ok_iloadn (pc' := 98) i198_97 rfl rfl <| ok_kz1 (pc1 := 105) (pc2 := 101) i198_98 (by decide) rfl rfl <| ok_iconst (pc' := 106) i198_105 rfl <| ?_
        refine ok_iadd (v := ((t 12) + 0)) (pc' := 107) i198_106 rfl rfl <| ok_iastore (pc' := 108) i198_107 (hY26.gr.ka) (hY26.gr.la) (by decide) rfl <| ?_
        have hY31 := Yd.waz hY26 (i := 6) (z := 12) (v := ((t 12) + 0)) (by omega) (by omega) (by omega)
        have e32 := frw e27 (fy_110 hY26.gr.o) hY31
        have n33 : (upI (upI (upI (upI (upI t ((414 + (8 * o)) + 4) ((t ((414 + (8 * o)) + 4)) - 1)) ((414 + (8 * o)) + 6) ((t ((414 + (8 * o)) + 6)) + 0)) ((414 + (8 * o)) + 5) ((t ((414 + (8 * o)) + 5)) + 1)) 10 ((t 10) + (t ((414 + (8 * o)) + 2)))) 12 ((t 12) + 0)) 3 = t 3 := (upI_ne (by omega)).trans n28
        have n34 : (upI (upI (upI (upI (upI t ((414 + (8 * o)) + 4) ((t ((414 + (8 * o)) + 4)) - 1)) ((414 + (8 * o)) + 6) ((t ((414 + (8 * o)) + 6)) + 0)) ((414 + (8 * o)) + 5) ((t ((414 + (8 * o)) + 5)) + 1)) 10 ((t 10) + (t ((414 + (8 * o)) + 2)))) 12 ((t 12) + 0)) 4 = t 4 := (upI_ne (by omega)).trans n29
        have n35 : (upI (upI (upI (upI (upI t ((414 + (8 * o)) + 4) ((t ((414 + (8 * o)) + 4)) - 1)) ((414 + (8 * o)) + 6) ((t ((414 + (8 * o)) + 6)) + 0)) ((414 + (8 * o)) + 5) ((t ((414 + (8 * o)) + 5)) + 1)) 10 ((t 10) + (t ((414 + (8 * o)) + 2)))) 12 ((t 12) + 0)) 5 = t 5 := (upI_ne (by omega)).trans n30
        refine ok_vret i198_108 rt198 <| kt_0 (pc' := 62) rfl <| ok_aloadn (pc' := 63) i197_62 rfl rfl <| ok_getfr (r := 109) (pc' := 66) i197_63 o197 gr17_44 (hY31.gr.ky) (hY31.gr.r6) rfl <| ok_iloadn (pc' := 67) i197_66 rfl rfl <| ok_dup2 (pc' := 68) i197_67 ⟨rfl, rfl⟩ rfl <| ok_iaload (v := (t (542 + x1))) (pc' := 69) i197_68 (hY31.gr.k9) (by decide) (hY31.gr.l9) (by omega) ((Eq.trans (Yd.st hY31 (i := x1) (by omega) (by omega)) (by rw [upI_ne (by omega), upI_ne (by omega), upI_ne (by omega), upI_ne (by omega), upI_ne (by omega)]))) rfl <| ok_iconst (pc' := 70) i197_69 rfl <| ?_
        refine ok_isub (v := ((t (542 + x1)) - 1)) (pc' := 71) i197_70 rfl rfl <| ok_iastore (pc' := 72) i197_71 (hY31.gr.k9) (hY31.gr.l9) (by omega) rfl <| ?_
        have hY36 := Yd.ws hY31 (i := x1) (v := ((t (542 + x1)) - 1)) (by omega) (by omega)
        have e37 := frw e32 (fy_109 hY31.gr.o) hY36
        have n38 : (upI (upI (upI (upI (upI (upI t ((414 + (8 * o)) + 4) ((t ((414 + (8 * o)) + 4)) - 1)) ((414 + (8 * o)) + 6) ((t ((414 + (8 * o)) + 6)) + 0)) ((414 + (8 * o)) + 5) ((t ((414 + (8 * o)) + 5)) + 1)) 10 ((t 10) + (t ((414 + (8 * o)) + 2)))) 12 ((t 12) + 0)) (542 + x1) ((t (542 + x1)) - 1)) 3 = t 3 := (upI_ne (by omega)).trans n33
        have n39 : (upI (upI (upI (upI (upI (upI t ((414 + (8 * o)) + 4) ((t ((414 + (8 * o)) + 4)) - 1)) ((414 + (8 * o)) + 6) ((t ((414 + (8 * o)) + 6)) + 0)) ((414 + (8 * o)) + 5) ((t ((414 + (8 * o)) + 5)) + 1)) 10 ((t 10) + (t ((414 + (8 * o)) + 2)))) 12 ((t 12) + 0)) (542 + x1) ((t (542 + x1)) - 1)) 4 = t 4 := (upI_ne (by omega)).trans n34
        have n40 : (upI (upI (upI (upI (upI (upI t ((414 + (8 * o)) + 4) ((t ((414 + (8 * o)) + 4)) - 1)) ((414 + (8 * o)) + 6) ((t ((414 + (8 * o)) + 6)) + 0)) ((414 + (8 * o)) + 5) ((t ((414 + (8 * o)) + 5)) + 1)) 10 ((t 10) + (t ((414 + (8 * o)) + 2)))) 12 ((t 12) + 0)) (542 + x1) ((t (542 + x1)) - 1)) 5 = t 5 := (upI_ne (by omega)).trans n35
        refine ok_goto (pc' := 39) i197_72 rfl <| ?_
        refine ih (k + 1) _ _ _ (by omega) ⟨by omega, rfl, ?_, Fr.w (Fr.trans hfr e37) (by omega) (by omega), rfl⟩
        rw [show (k + 1).toNat = k.toNat + 1 by omega]
        refine Yd.ext hY36 (fun j => congrFun (g := itv (supF x1 o) s 0 (k.toNat + 1)) ?_ j)
        rw [give_time (by omega) (by omega), sup_go (i := 0 + (k.toNat : Int)) (by omega) hl, ht]
        rfl
      · refine ok_iconst (pc' := 12) i198_11 rfl <| ok_goto (pc' := 16) i198_12 rfl <| ok_istoren (pc' := 17) (ls' := [aR 101, aR (A.D o), aI 1]) i198_16 (bt rfl) rfl rfl <| ok_aloadn (pc' := 18) i198_17 rfl rfl <| ok_dup (pc' := 19) i198_18 rfl rfl <| ok_getfi (v := (t ((414 + (8 * o)) + 4))) (pc' := 22) i198_19 o198 gi17_127 ((hYt.gr.dd o (by omega) (by omega)).2.2) ((Yd.d5 hYt (k := o) (by omega) (by omega))) rfl <| ok_iconst (pc' := 23) i198_22 rfl <| ok_isub (v := ((t ((414 + (8 * o)) + 4)) - 1)) (pc' := 24) i198_23 rfl rfl <| ?_
        refine ok_putfj (kk := 5) (pc' := 27) i198_24 o198 pi198_127 ((hYt.gr.dd o (by omega) (by omega)).2.2) rfl rfl <| ?_
        have hY41 := Yd.wd5 hYt (k := o) (v := ((t ((414 + (8 * o)) + 4)) - 1)) (by omega) (by omega)
        have e42 := frw e0 (hYt.gr.dd o (by omega) (by omega)).2.1.fy hY41
        have n43 : (upI t ((414 + (8 * o)) + 4) ((t ((414 + (8 * o)) + 4)) - 1)) 3 = t 3 := upI_ne (by omega)
        have n44 : (upI t ((414 + (8 * o)) + 4) ((t ((414 + (8 * o)) + 4)) - 1)) 4 = t 4 := upI_ne (by omega)
        have n45 : (upI t ((414 + (8 * o)) + 4) ((t ((414 + (8 * o)) + 4)) - 1)) 5 = t 5 := upI_ne (by omega)
        refine ok_aloadn (pc' := 28) i198_27 rfl rfl <| ok_dup (pc' := 29) i198_28 rfl rfl <| ?_
        have z46 : 0 ≤ t ((414 + (8 * o)) + 6) ∧ t ((414 + (8 * o)) + 6) ≤ 9 := V_o6 hVt (by omega) (by omega)
        refine ok_getfi (v := (t ((414 + (8 * o)) + 6))) (pc' := 32) i198_29 o198 gi17_139 ((hY41.gr.dd o (by omega) (by omega)).2.2) ((Eq.trans (Yd.d7 hY41 (k := o) (by omega) (by omega)) (by rw [upI_ne (by omega)]))) rfl <| ok_iloadn (pc' := 33) i198_32 rfl rfl <| ok_kz0 (pc1 := 40) (pc2 := 36) i198_33 (by decide) rfl rfl <| ok_iconst (pc' := 37) i198_36 rfl <| ok_goto (pc' := 41) i198_37 rfl <| ok_iadd (v := ((t ((414 + (8 * o)) + 6)) + 1)) (pc' := 42) i198_41 rfl rfl <| ok_putfj (kk := 7) (pc' := 45) i198_42 o198 pi198_139 ((hY41.gr.dd o (by omega) (by omega)).2.2) rfl rfl <| ?_
        have hY47 := Yd.wd7 hY41 (k := o) (v := ((t ((414 + (8 * o)) + 6)) + 1)) (by omega) (by omega)
        have e48 := frw e42 (hY41.gr.dd o (by omega) (by omega)).2.1.fy hY47
        have n49 : (upI (upI t ((414 + (8 * o)) + 4) ((t ((414 + (8 * o)) + 4)) - 1)) ((414 + (8 * o)) + 6) ((t ((414 + (8 * o)) + 6)) + 1)) 3 = t 3 := (upI_ne (by omega)).trans n43
        have n50 : (upI (upI t ((414 + (8 * o)) + 4) ((t ((414 + (8 * o)) + 4)) - 1)) ((414 + (8 * o)) + 6) ((t ((414 + (8 * o)) + 6)) + 1)) 4 = t 4 := (upI_ne (by omega)).trans n44
        have n51 : (upI (upI t ((414 + (8 * o)) + 4) ((t ((414 + (8 * o)) + 4)) - 1)) ((414 + (8 * o)) + 6) ((t ((414 + (8 * o)) + 6)) + 1)) 5 = t 5 := (upI_ne (by omega)).trans n45
        refine ok_aloadn (pc' := 46) i198_45 rfl rfl <| ok_dup (pc' := 47) i198_46 rfl rfl <| ?_
        have z52 : 0 ≤ t ((414 + (8 * o)) + 5) ∧ t ((414 + (8 * o)) + 5) ≤ 9 := V_o5 hVt (by omega) (by omega)
        refine ok_getfi (v := (t ((414 + (8 * o)) + 5))) (pc' := 50) i198_47 o198 gi17_142 ((hY47.gr.dd o (by omega) (by omega)).2.2) ((Eq.trans (Yd.d6 hY47 (k := o) (by omega) (by omega)) (by rw [upI_ne (by omega), upI_ne (by omega)]))) rfl <| ok_iloadn (pc' := 51) i198_50 rfl rfl <| ok_kz0 (pc1 := 58) (pc2 := 54) i198_51 (by decide) rfl rfl <| ok_iconst (pc' := 55) i198_54 rfl <| ok_goto (pc' := 59) i198_55 rfl <| ok_iadd (v := ((t ((414 + (8 * o)) + 5)) + 0)) (pc' := 60) i198_59 rfl rfl <| ok_putfj (kk := 6) (pc' := 63) i198_60 o198 pi198_142 ((hY47.gr.dd o (by omega) (by omega)).2.2) rfl rfl <| ?_
        have hY53 := Yd.wd6 hY47 (k := o) (v := ((t ((414 + (8 * o)) + 5)) + 0)) (by omega) (by omega)
        have e54 := frw e48 (hY47.gr.dd o (by omega) (by omega)).2.1.fy hY53
        have n55 : (upI (upI (upI t ((414 + (8 * o)) + 4) ((t ((414 + (8 * o)) + 4)) - 1)) ((414 + (8 * o)) + 6) ((t ((414 + (8 * o)) + 6)) + 1)) ((414 + (8 * o)) + 5) ((t ((414 + (8 * o)) + 5)) + 0)) 3 = t 3 := (upI_ne (by omega)).trans n49
        have n56 : (upI (upI (upI t ((414 + (8 * o)) + 4) ((t ((414 + (8 * o)) + 4)) - 1)) ((414 + (8 * o)) + 6) ((t ((414 + (8 * o)) + 6)) + 1)) ((414 + (8 * o)) + 5) ((t ((414 + (8 * o)) + 5)) + 0)) 4 = t 4 := (upI_ne (by omega)).trans n50
        have n57 : (upI (upI (upI t ((414 + (8 * o)) + 4) ((t ((414 + (8 * o)) + 4)) - 1)) ((414 + (8 * o)) + 6) ((t ((414 + (8 * o)) + 6)) + 1)) ((414 + (8 * o)) + 5) ((t ((414 + (8 * o)) + 5)) + 0)) 5 = t 5 := (upI_ne (by omega)).trans n51
        refine ok_aloadn (pc' := 64) i198_63 rfl rfl <| ok_getfr (r := 110) (pc' := 67) i198_64 o198 gr17_47 (hY53.gr.ky) (hY53.gr.r7) rfl <| ok_iconst (pc' := 68) i198_67 rfl <| ok_dup2 (pc' := 69) i198_68 ⟨rfl, rfl⟩ rfl <| ok_iaload (v := (t 10)) (pc' := 70) i198_69 (hY53.gr.ka) (by decide) (hY53.gr.la) (by decide) ((Eq.trans (Yd.acz hY53 (i := 4) (z := 10) (by omega) (by omega) (by omega)) (by rw [upI_ne (by omega), upI_ne (by omega), upI_ne (by omega)]))) rfl <| ok_iloadn (pc' := 71) i198_70 rfl rfl <| ok_kz0 (pc1 := 83) (pc2 := 74) i198_71 (by decide) rfl rfl <| ok_aloadn (pc' := 75) i198_74 rfl rfl <| ?_
        have z58 : 0 ≤ t ((414 + (8 * o)) + 2) ∧ t ((414 + (8 * o)) + 2) ≤ 99 := V_o2 hVt (by omega) (by omega)
        refine ok_getfi (v := (t ((414 + (8 * o)) + 2))) (pc' := 78) i198_75 o198 gi17_145 ((hY53.gr.dd o (by omega) (by omega)).2.2) ((Eq.trans (Yd.d3 hY53 (k := o) (by omega) (by omega)) (by rw [upI_ne (by omega), upI_ne (by omega), upI_ne (by omega)]))) rfl <| ok_iconst (pc' := 79) i198_78 rfl <| ok_idivp (v := (Int.tdiv (t ((414 + (8 * o)) + 2)) 2)) (pc' := 80) i198_79 (by omega) rfl rfl <| ?_
        have z59 : 2 * (Int.tdiv (t ((414 + (8 * o)) + 2)) 2) ≤ (t ((414 + (8 * o)) + 2)) ∧ (t ((414 + (8 * o)) + 2)) ≤ 2 * (Int.tdiv (t ((414 + (8 * o)) + 2)) 2) + 1 ∧ 0 ≤ (Int.tdiv (t ((414 + (8 * o)) + 2)) 2) := tdiv_f 2 (by omega) (by decide)
        refine ok_goto (pc' := 87) i198_80 rfl <| ok_iadd (v := ((t 10) + (Int.tdiv (t ((414 + (8 * o)) + 2)) 2))) (pc' := 88) i198_87 rfl rfl <| ok_iastore (pc' := 89) i198_88 (hY53.gr.ka) (hY53.gr.la) (by decide) rfl <| ?_
        have hY60 := Yd.waz hY53 (i := 4) (z := 10) (v := ((t 10) + (Int.tdiv (t ((414 + (8 * o)) + 2)) 2))) (by omega) (by omega) (by omega)
        have e61 := frw e54 (fy_110 hY53.gr.o) hY60
        have n62 : (upI (upI (upI (upI t ((414 + (8 * o)) + 4) ((t ((414 + (8 * o)) + 4)) - 1)) ((414 + (8 * o)) + 6) ((t ((414 + (8 * o)) + 6)) + 1)) ((414 + (8 * o)) + 5) ((t ((414 + (8 * o)) + 5)) + 0)) 10 ((t 10) + (Int.tdiv (t ((414 + (8 * o)) + 2)) 2))) 3 = t 3 := (upI_ne (by omega)).trans n55
        have n63 : (upI (upI (upI (upI t ((414 + (8 * o)) + 4) ((t ((414 + (8 * o)) + 4)) - 1)) ((414 + (8 * o)) + 6) ((t ((414 + (8 * o)) + 6)) + 1)) ((414 + (8 * o)) + 5) ((t ((414 + (8 * o)) + 5)) + 0)) 10 ((t 10) + (Int.tdiv (t ((414 + (8 * o)) + 2)) 2))) 4 = t 4 := (upI_ne (by omega)).trans n56
        have n64 : (upI (upI (upI (upI t ((414 + (8 * o)) + 4) ((t ((414 + (8 * o)) + 4)) - 1)) ((414 + (8 * o)) + 6) ((t ((414 + (8 * o)) + 6)) + 1)) ((414 + (8 * o)) + 5) ((t ((414 + (8 * o)) + 5)) + 0)) 10 ((t 10) + (Int.tdiv (t ((414 + (8 * o)) + 2)) 2))) 5 = t 5 := (upI_ne (by omega)).trans n57
        refine ok_aloadn (pc' := 90) i198_89 rfl rfl <| ok_getfr (r := 110) (pc' := 93) i198_90 o198 gr17_47 (hY60.gr.ky) (hY60.gr.r7) rfl <| ok_bipush (v := 6) (pc' := 95) i198_93 rfl rfl <| ok_dup2 (pc' := 96) i198_95 ⟨rfl, rfl⟩ rfl <| ok_iaload (v := (t 12)) (pc' := 97) i198_96 (hY60.gr.ka) (by decide) (hY60.gr.la) (by decide) ((Eq.trans (Yd.acz hY60 (i := 6) (z := 12) (by omega) (by omega) (by omega)) (by rw [upI_ne (by omega), upI_ne (by omega), upI_ne (by omega), upI_ne (by omega)]))) rfl <| ok_iloadn (pc' := 98) i198_97 rfl rfl <| ok_kz0 (pc1 := 105) (pc2 := 101) i198_98 (by decide) rfl rfl <| ok_iconst (pc' := 102) i198_101 rfl <| ?_
        refine ok_goto (pc' := 106) i198_102 rfl <| ok_iadd (v := ((t 12) + 1)) (pc' := 107) i198_106 rfl rfl <| ok_iastore (pc' := 108) i198_107 (hY60.gr.ka) (hY60.gr.la) (by decide) rfl <| ?_
        have hY65 := Yd.waz hY60 (i := 6) (z := 12) (v := ((t 12) + 1)) (by omega) (by omega) (by omega)
        have e66 := frw e61 (fy_110 hY60.gr.o) hY65
        have n67 : (upI (upI (upI (upI (upI t ((414 + (8 * o)) + 4) ((t ((414 + (8 * o)) + 4)) - 1)) ((414 + (8 * o)) + 6) ((t ((414 + (8 * o)) + 6)) + 1)) ((414 + (8 * o)) + 5) ((t ((414 + (8 * o)) + 5)) + 0)) 10 ((t 10) + (Int.tdiv (t ((414 + (8 * o)) + 2)) 2))) 12 ((t 12) + 1)) 3 = t 3 := (upI_ne (by omega)).trans n62
        have n68 : (upI (upI (upI (upI (upI t ((414 + (8 * o)) + 4) ((t ((414 + (8 * o)) + 4)) - 1)) ((414 + (8 * o)) + 6) ((t ((414 + (8 * o)) + 6)) + 1)) ((414 + (8 * o)) + 5) ((t ((414 + (8 * o)) + 5)) + 0)) 10 ((t 10) + (Int.tdiv (t ((414 + (8 * o)) + 2)) 2))) 12 ((t 12) + 1)) 4 = t 4 := (upI_ne (by omega)).trans n63
        have n69 : (upI (upI (upI (upI (upI t ((414 + (8 * o)) + 4) ((t ((414 + (8 * o)) + 4)) - 1)) ((414 + (8 * o)) + 6) ((t ((414 + (8 * o)) + 6)) + 1)) ((414 + (8 * o)) + 5) ((t ((414 + (8 * o)) + 5)) + 0)) 10 ((t 10) + (Int.tdiv (t ((414 + (8 * o)) + 2)) 2))) 12 ((t 12) + 1)) 5 = t 5 := (upI_ne (by omega)).trans n64
        refine ok_vret i198_108 rt198 <| kt_0 (pc' := 62) rfl <| ok_aloadn (pc' := 63) i197_62 rfl rfl <| ok_getfr (r := 109) (pc' := 66) i197_63 o197 gr17_44 (hY65.gr.ky) (hY65.gr.r6) rfl <| ok_iloadn (pc' := 67) i197_66 rfl rfl <| ok_dup2 (pc' := 68) i197_67 ⟨rfl, rfl⟩ rfl <| ok_iaload (v := (t (542 + x1))) (pc' := 69) i197_68 (hY65.gr.k9) (by decide) (hY65.gr.l9) (by omega) ((Eq.trans (Yd.st hY65 (i := x1) (by omega) (by omega)) (by rw [upI_ne (by omega), upI_ne (by omega), upI_ne (by omega), upI_ne (by omega), upI_ne (by omega)]))) rfl <| ok_iconst (pc' := 70) i197_69 rfl <| ?_
        refine ok_isub (v := ((t (542 + x1)) - 1)) (pc' := 71) i197_70 rfl rfl <| ok_iastore (pc' := 72) i197_71 (hY65.gr.k9) (hY65.gr.l9) (by omega) rfl <| ?_
        have hY70 := Yd.ws hY65 (i := x1) (v := ((t (542 + x1)) - 1)) (by omega) (by omega)
        have e71 := frw e66 (fy_109 hY65.gr.o) hY70
        have n72 : (upI (upI (upI (upI (upI (upI t ((414 + (8 * o)) + 4) ((t ((414 + (8 * o)) + 4)) - 1)) ((414 + (8 * o)) + 6) ((t ((414 + (8 * o)) + 6)) + 1)) ((414 + (8 * o)) + 5) ((t ((414 + (8 * o)) + 5)) + 0)) 10 ((t 10) + (Int.tdiv (t ((414 + (8 * o)) + 2)) 2))) 12 ((t 12) + 1)) (542 + x1) ((t (542 + x1)) - 1)) 3 = t 3 := (upI_ne (by omega)).trans n67
        have n73 : (upI (upI (upI (upI (upI (upI t ((414 + (8 * o)) + 4) ((t ((414 + (8 * o)) + 4)) - 1)) ((414 + (8 * o)) + 6) ((t ((414 + (8 * o)) + 6)) + 1)) ((414 + (8 * o)) + 5) ((t ((414 + (8 * o)) + 5)) + 0)) 10 ((t 10) + (Int.tdiv (t ((414 + (8 * o)) + 2)) 2))) 12 ((t 12) + 1)) (542 + x1) ((t (542 + x1)) - 1)) 4 = t 4 := (upI_ne (by omega)).trans n68
        have n74 : (upI (upI (upI (upI (upI (upI t ((414 + (8 * o)) + 4) ((t ((414 + (8 * o)) + 4)) - 1)) ((414 + (8 * o)) + 6) ((t ((414 + (8 * o)) + 6)) + 1)) ((414 + (8 * o)) + 5) ((t ((414 + (8 * o)) + 5)) + 0)) 10 ((t 10) + (Int.tdiv (t ((414 + (8 * o)) + 2)) 2))) 12 ((t 12) + 1)) (542 + x1) ((t (542 + x1)) - 1)) 5 = t 5 := (upI_ne (by omega)).trans n69
        refine ok_goto (pc' := 39) i197_72 rfl <| ?_
        refine ih (k + 1) _ _ _ (by omega) ⟨by omega, rfl, ?_, Fr.w (Fr.trans hfr e71) (by omega) (by omega), rfl⟩
        rw [show (k + 1).toNat = k.toNat + 1 by omega]
        refine Yd.ext hY70 (fun j => congrFun (g := itv (supF x1 o) s 0 (k.toNat + 1)) ?_ j)
        rw [give_late (by omega) (by omega), sup_go (i := 0 + (k.toNat : Int)) (by omega) hl, ht]
        rfl
/-- an order is entered and supplied -/
theorem t197 {g : AG} {M : AM} {O : Nat} {A : YA} {s q : Int → Int} {b : Int} {x1 x2 x3 x4 : Int} (hY : Yd g M O A s q) (hV : Val b q s) (hO : O + 348 ≤ 100 + gN g ∨ 100 + gN g < O) (h4 : s 4 < 16) (h1 : 1 ≤ x1 ∧ x1 ≤ 200) (h2 : 1 ≤ x2 ∧ x2 ≤ 9) (h3 : 0 ≤ x3 ∧ x3 ≤ 99) (h5 : 0 ≤ x4 ∧ x4 ≤ 999) : Ok 1 197 0 [aR 101, aI x1, aI x2, aI x3, aI x4, aU] [] g M (fun o g1 M1 => o = .inl (some (aI (s 4))) ∧ ∃ A1 : YA, A1.1 = A.1 ∧ A1.2.2 = A.2.2 ∧ Yd g1 M1 O A1 (supS (ordS s x1 x2 x3 x4) (s 4) x1) q ∧ Fr (FY O) 1 16 g M g1 M1) := by
  have y4 := V_4 hV
  refine w197_39 hY hV hO h4 (fun a A1 g1 M1 e1 e2 e3 h f => ?_)
  rw [← e3]
  have e4 : ordS s x1 x2 x3 x4 4 = s 4 + 1 := upI_eq
  exact (w197_l h (V_ord hV h4 h1 h2 h3 h5) ⟨by omega, by omega⟩ h1).mono (fun o g2 M2 p => ⟨p.1, A1, e1, e2, by rw [p.2.1]; exact p.2.2.1, by rw [p.2.1]; exact Fr.w (Fr.trans f p.2.2.2) (by omega) (by omega)⟩)
theorem t206 {g : AG} {M : AM} {O : Nat} {A : YA} {s q : Int → Int} {b : Int} (hY : Yd g M O A s q) (hV : Val b q s) : Ok 2 206 0 [aR 101, aU, aU, aU] [] g M (fun o g1 M1 => o = .inl (some (aI (endN q s))) ∧ Yd g1 M1 O A (endS q s) q ∧ Fr (FY O) 0 0 g M g1 M1) := by
  have hQ := V_q hV
  have y3 := V_3 hV
  have y4 := V_4 hV
  have y5 := V_5 hV
  have yq0 := Q_0 hQ
  have yq1 := Q_1 hQ
  refine ok_iconst (pc' := 1) i206_0 rfl <| ok_istoren (pc' := 2) (ls' := [aR 101, aI 0, aU, aU]) i206_1 (bt rfl) rfl rfl <| ok_iconst (pc' := 3) i206_2 rfl <| ok_istoren (pc' := 4) (ls' := [aR 101, aI 0, aI 0, aU]) i206_3 (bt rfl) rfl rfl <| ?_
  refine ok_for (lo := 0) (n := (s 3).toNat) (f := endF q) (a0 := (s, 0)) (fun i a ls M9 => Yd g M9 O A a.1 q ∧ a.1 3 = s 3 ∧ Val b q a.1 ∧ Fr (FY O) 0 0 g M g M9 ∧ (0 ≤ a.2 ∧ a.2 ≤ 200 * i) ∧ ∃ w3 : AV, am_cat w3 = 1 ∧ ls = [aR 101, aI a.2, aI i, w3]) ?_ ?_ _ _ ⟨hY, rfl, hV, Fr.rfl, by show 0 ≤ (0 : Int) ∧ (0 : Int) ≤ 200 * 0; omega, aU, rfl, rfl⟩
  · rintro i ⟨t, c⟩ ls M9 g1 g2 ⟨hYt, h3, hVt, hfr, hc, w3, hw3, rfl⟩ ih
    dsimp only at *
    have hQ := V_q hVt
    have yt3 := V_3 hVt
    have yt4 := V_4 hVt
    have yt5 := V_5 hVt
    have e9 : Fr (FY O) 0 0 g M9 g M9 := Fr.rfl
    have g3 : i < t 3 := by omega
    refine ok_iloadn (pc' := 5) i206_4 rfl rfl <| ok_aloadn (pc' := 6) i206_5 rfl rfl <| ok_getfi (v := (t 3)) (pc' := 9) i206_6 o206 gi17_97 (hYt.gr.ky) ((Yd.n3 hYt)) rfl <| ?_
    refine ok_cge (pc1 := 63) (pc2 := 12) i206_9 (by omega) rfl rfl (fun h9 => by exfalso; omega) (fun h1 => ?_)
    refine ok_aloadn (pc' := 13) i206_12 rfl rfl <| ok_getfr (r := 107) (pc' := 16) i206_13 o206 gr17_34 (hYt.gr.ky) (hYt.gr.r4) rfl <| ok_iloadn (pc' := 17) i206_16 rfl rfl <| ok_aaload (r := (A.R i)) (pc' := 18) i206_17 (hYt.gr.k7) (by decide) (hYt.gr.l7) (by omega) ((hYt.gr.rr i (by omega) (by omega)).1) rfl <| ok_astoren (pc' := 19) (ls' := [aR 101, aI c, aI i, aR (A.R i)]) i206_18 (bt rfl) rfl rfl <| ok_aloadn (pc' := 20) i206_19 rfl rfl <| ?_
    have z2 : 0 ≤ t (174 + i) ∧ t (174 + i) ≤ 2 := V_d2 hVt (by omega) (by omega)
    refine ok_getfi (v := (t (174 + i))) (pc' := 23) i206_20 o206 gi17_160 ((hYt.gr.rr i (by omega) (by omega)).2.2) ((Yd.r3 hYt (k := i) (by omega) (by omega))) rfl <| ?_
    refine ok_zne (pc1 := 52) (pc2 := 26) i206_23 (by omega) rfl rfl (fun h3 => ?_) (fun h3 => ?_)
    · refine ok_aloadn (pc' := 53) i206_52 rfl rfl <| ok_iconst (pc' := 54) i206_53 rfl <| ok_putzj (kk := 5) (pc' := 57) i206_54 o206 pz206_166 ((hYt.gr.rr i (by omega) (by omega)).2.2) (by omega) rfl rfl <| ?_
      have hY4 := Yd.wr5 hYt (k := i) (v := 0) (by omega) (by omega)
      have e5 := frw e9 (hYt.gr.rr i (by omega) (by omega)).2.1.fy hY4
      have n6 : (upI t (334 + i) 0) 3 = t 3 := upI_ne (by omega)
      have n7 : (upI t (334 + i) 0) 4 = t 4 := upI_ne (by omega)
      have n8 : (upI t (334 + i) 0) 5 = t 5 := upI_ne (by omega)
      refine ok_iinc (pc' := 60) (v := (i + 1)) (ls' := [aR 101, aI c, aI (i + 1), aR (A.R i)]) i206_57 rfl rfl rfl rfl <| ok_goto (pc' := 4) i206_60 rfl <| ?_
      have e : endF q i (t, c) = ((upI t (334 + i) 0), c) := by
        unfold endF; dsimp only; (repeat' split) <;> first | rfl | omega | simp
      have e3 := n6
      exact ih _ _ ⟨by rw [e]; exact hY4, by rw [e]; show upI _ _ _ 3 = _; omega, V_endF hVt ⟨by omega, by omega⟩, Fr.w (Fr.trans hfr e5) (by omega) (by omega), by rw [e]; dsimp only; omega, _, rfl, by rw [e]⟩
    · refine ok_aloadn (pc' := 27) i206_26 rfl rfl <| ?_
      have z9 : 0 ≤ t (334 + i) ∧ t (334 + i) ≤ 1 := V_d4 hVt (by omega) (by omega)
      refine ok_getfi (v := (t (334 + i))) (pc' := 30) i206_27 o206 gi17_166 ((hYt.gr.rr i (by omega) (by omega)).2.2) ((Yd.r5 hYt (k := i) (by omega) (by omega))) rfl <| ?_
      refine ok_zeq (pc1 := 52) (pc2 := 33) i206_30 (by omega) rfl rfl (fun h10 => ?_) (fun h10 => ?_)
      · refine ok_aloadn (pc' := 53) i206_52 rfl rfl <| ok_iconst (pc' := 54) i206_53 rfl <| ok_putzj (kk := 5) (pc' := 57) i206_54 o206 pz206_166 ((hYt.gr.rr i (by omega) (by omega)).2.2) (by omega) rfl rfl <| ?_
        have hY11 := Yd.wr5 hYt (k := i) (v := 0) (by omega) (by omega)
        have e12 := frw e9 (hYt.gr.rr i (by omega) (by omega)).2.1.fy hY11
        have n13 : (upI t (334 + i) 0) 3 = t 3 := upI_ne (by omega)
        have n14 : (upI t (334 + i) 0) 4 = t 4 := upI_ne (by omega)
        have n15 : (upI t (334 + i) 0) 5 = t 5 := upI_ne (by omega)
        refine ok_iinc (pc' := 60) (v := (i + 1)) (ls' := [aR 101, aI c, aI (i + 1), aR (A.R i)]) i206_57 rfl rfl rfl rfl <| ok_goto (pc' := 4) i206_60 rfl <| ?_
        have e : endF q i (t, c) = ((upI t (334 + i) 0), c) := by
          unfold endF; dsimp only; (repeat' split) <;> first | rfl | omega | simp
        have e3 := n13
        exact ih _ _ ⟨by rw [e]; exact hY11, by rw [e]; show upI _ _ _ 3 = _; omega, V_endF hVt ⟨by omega, by omega⟩, Fr.w (Fr.trans hfr e12) (by omega) (by omega), by rw [e]; dsimp only; omega, _, rfl, by rw [e]⟩
      · refine ok_aloadn (pc' := 34) i206_33 rfl rfl <| ?_
        have z16 : 0 ≤ t (94 + i) ∧ t (94 + i) ≤ 200 := V_d1 hVt (by omega) (by omega)
        refine ok_getfi (v := (t (94 + i))) (pc' := 37) i206_34 o206 gi17_154 ((hYt.gr.rr i (by omega) (by omega)).2.2) ((Yd.r2 hYt (k := i) (by omega) (by omega))) rfl <| ok_aloadn (pc' := 38) i206_37 rfl rfl <| ?_
        have z17 : 1 ≤ t 2 ∧ t 2 ≤ 200 := V_2 hVt
        refine ok_getfi (v := (t 2)) (pc' := 41) i206_38 o206 gi17_60 (hYt.gr.ky) ((Yd.n2 hYt)) rfl <| ?_
        refine ok_cge (pc1 := 52) (pc2 := 44) i206_41 (by omega) rfl rfl (fun h18 => ?_) (fun h18 => ?_)
        · refine ok_aloadn (pc' := 53) i206_52 rfl rfl <| ok_iconst (pc' := 54) i206_53 rfl <| ok_putzj (kk := 5) (pc' := 57) i206_54 o206 pz206_166 ((hYt.gr.rr i (by omega) (by omega)).2.2) (by omega) rfl rfl <| ?_
          have hY19 := Yd.wr5 hYt (k := i) (v := 0) (by omega) (by omega)
          have e20 := frw e9 (hYt.gr.rr i (by omega) (by omega)).2.1.fy hY19
          have n21 : (upI t (334 + i) 0) 3 = t 3 := upI_ne (by omega)
          have n22 : (upI t (334 + i) 0) 4 = t 4 := upI_ne (by omega)
          have n23 : (upI t (334 + i) 0) 5 = t 5 := upI_ne (by omega)
          refine ok_iinc (pc' := 60) (v := (i + 1)) (ls' := [aR 101, aI c, aI (i + 1), aR (A.R i)]) i206_57 rfl rfl rfl rfl <| ok_goto (pc' := 4) i206_60 rfl <| ?_
          have e : endF q i (t, c) = ((upI t (334 + i) 0), c) := by
            unfold endF; dsimp only; (repeat' split) <;> first | rfl | omega | simp
          have e3 := n21
          exact ih _ _ ⟨by rw [e]; exact hY19, by rw [e]; show upI _ _ _ 3 = _; omega, V_endF hVt ⟨by omega, by omega⟩, Fr.w (Fr.trans hfr e20) (by omega) (by omega), by rw [e]; dsimp only; omega, _, rfl, by rw [e]⟩
        · refine ok_iloadn (pc' := 45) i206_44 rfl rfl <| ok_aloadn (pc' := 46) i206_45 rfl rfl <| ok_aloadn (pc' := 47) i206_46 rfl rfl <| ?_
          refine ok_cc i206_47 rfl (cl_v o206 m17_202 na207 rfl rfl (bt rfl) (bt rfl) rfl (by rw [hYt.gr.ky, o207])) ln207 (pd207 (aR 101) (aR (A.R i))) <| (Ok.deep (t207 hYt hVt ⟨by omega, by omega⟩) (by omega)).mono (fun o9 g8 M8 p8 => ?_)
          obtain ⟨rfl, e8, hY8, f8⟩ := p8
          rw [e8]
          obtain ⟨u, hu⟩ : ∃ u : Int → Int, u = scrA q t i := ⟨_, rfl⟩
          rw [← hu] at hY8
          have u3 : u 3 = t 3 := by rw [hu]; exact scr_3 g1
          refine kt_v (pc' := 50) rfl <| ok_iadd (v := (c + (t (94 + i)))) (pc' := 51) i206_50 rfl rfl <| ok_istoren (pc' := 52) (ls' := [aR 101, aI (c + (t (94 + i))), aI i, aR (A.R i)]) i206_51 (bt rfl) rfl rfl <| ok_aloadn (pc' := 53) i206_52 rfl rfl <| ok_iconst (pc' := 54) i206_53 rfl <| ok_putzj (kk := 5) (pc' := 57) i206_54 o206 pz206_166 ((hY8.gr.rr i (by omega) (by omega)).2.2) (by omega) rfl rfl <| ?_
          have hY24 := Yd.wr5 hY8 (k := i) (v := 0) (by omega) (by omega)
          have e25 := frw f8 (hY8.gr.rr i (by omega) (by omega)).2.1.fy hY24
          have n26 : (upI u (334 + i) 0) 3 = u 3 := upI_ne (by omega)
          have n27 : (upI u (334 + i) 0) 4 = u 4 := upI_ne (by omega)
          have n28 : (upI u (334 + i) 0) 5 = u 5 := upI_ne (by omega)
          refine ok_iinc (pc' := 60) (v := (i + 1)) (ls' := [aR 101, aI (c + (t (94 + i))), aI (i + 1), aR (A.R i)]) i206_57 rfl rfl rfl rfl <| ok_goto (pc' := 4) i206_60 rfl <| ?_
          have e : endF q i (t, c) = ((upI (scrA q t i) (334 + i) 0), (c + (t (94 + i)))) := by
            unfold endF; dsimp only; (repeat' split) <;> first | rfl | omega | simp
          have e3 := n26
          exact ih _ _ ⟨by rw [e, ← hu]; exact hY24, by rw [e, ← hu]; show upI _ _ _ 3 = _; omega, V_endF hVt ⟨by omega, by omega⟩, Fr.w (Fr.trans hfr e25) (by omega) (by omega), by rw [e]; dsimp only; omega, _, rfl, by rw [e]⟩
  · rintro i ⟨t, c⟩ ls M9 g1 g2 ⟨hYt, h3, hVt, hfr, hc, w3, hw3, rfl⟩
    dsimp only at *
    have hQ := V_q hVt
    have yt3 := V_3 hVt
    have yt4 := V_4 hVt
    have yt5 := V_5 hVt
    have e9 : Fr (FY O) 0 0 g M9 g M9 := Fr.rfl
    have g3 : i = t 3 := by omega
    refine ok_iloadn (pc' := 5) i206_4 rfl rfl <| ok_aloadn (pc' := 6) i206_5 rfl rfl <| ok_getfi (v := (t 3)) (pc' := 9) i206_6 o206 gi17_97 (hYt.gr.ky) ((Yd.n3 hYt)) rfl <| ?_
    refine ok_cge (pc1 := 63) (pc2 := 12) i206_9 (by omega) rfl rfl (fun h1 => ?_) (fun h9 => by exfalso; omega)
    refine ok_aloadn (pc' := 64) i206_63 rfl rfl <| ok_dup (pc' := 65) i206_64 rfl rfl <| ?_
    have z2 : 0 ≤ t 0 ∧ t 0 ≤ 1000000 := V_0 hVt
    refine ok_getfi (v := (t 0)) (pc' := 68) i206_65 o206 gi17_103 (hYt.gr.ky) ((Yd.n0 hYt)) rfl <| ok_iconst (pc' := 69) i206_68 rfl <| ok_iadd (v := ((t 0) + 1)) (pc' := 70) i206_69 rfl rfl <| ok_putfj (kk := 13) (pc' := 73) i206_70 o206 pi206_103 (hYt.gr.ky) rfl rfl <| ?_
    have hY3 := Yd.wy13 hYt (v := ((t 0) + 1))
    have e4 := frw e9 (fy_101 hYt.gr.o) hY3
    have n5 : (upI t 0 ((t 0) + 1)) 3 = t 3 := upI_ne (by omega)
    have n6 : (upI t 0 ((t 0) + 1)) 4 = t 4 := upI_ne (by omega)
    have n7 : (upI t 0 ((t 0) + 1)) 5 = t 5 := upI_ne (by omega)
    refine ok_iloadn (pc' := 74) i206_73 rfl rfl <| ok_ireti i206_74 rt206 <| ?_
    have e2 : endL q s = (t, c) := by unfold endL; exact g2
    exact ⟨by unfold endN; rw [e2], by rw [show endS q s = (upI t 0 ((t 0) + 1)) by unfold endS; rw [e2]]; exact hY3, Fr.w (Fr.trans hfr e4) (by omega) (by omega)⟩
