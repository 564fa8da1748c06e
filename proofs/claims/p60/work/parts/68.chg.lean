/-! THE LAW'S CHANGES: rods and orders that are added (by program, wip/p60/gen) -/
theorem o196 : am_oc 196 = 17 := by decide +kernel
theorem ck17_32 : am_csk 17 32 16 = true := by decide +kernel
theorem m17_121 : am_mlk 17 121 2 193 = true := by decide +kernel
theorem na193 : am_na 193 = 3 := by decide +kernel
theorem nl193 : am_nL 193 = 4 := by decide +kernel
theorem pd193 : ∀ a0 a1 a2 a3 : AV, am_pad 193 [a0, a1, a2, a3] = [a0, a1, a2, a3] := by intros; unfold am_pad; rw [nl193]; rfl
theorem ln193 : 4 ≤ am_nL 193 := by rw [nl193]; decide
theorem o193 : am_oc 193 = 16 := by decide +kernel
theorem m16_1 : am_mlk 16 1 5 0 = true := by decide +kernel
theorem pi193_7 : am_pfi 193 16 7 16 0 = true := by decide +kernel
theorem pi193_13 : am_pfi 193 16 13 16 1 = true := by decide +kernel
theorem pi193_16 : am_pfi 193 16 16 16 2 = true := by decide +kernel
theorem rt193 : am_rt 193 = none := by decide +kernel
theorem pi196_97 : am_pfi 196 17 97 17 10 = true := by decide +kernel
theorem rt196 : am_rt 196 = none := by decide +kernel
theorem o197 : am_oc 197 = 17 := by decide +kernel
theorem ck17_38 : am_csk 17 38 15 = true := by decide +kernel
theorem m17_124 : am_mlk 17 124 2 194 = true := by decide +kernel
theorem na194 : am_na 194 = 5 := by decide +kernel
theorem nl194 : am_nL 194 = 6 := by decide +kernel
theorem pd194 : ∀ a0 a1 a2 a3 a4 a5 : AV, am_pad 194 [a0, a1, a2, a3, a4, a5] = [a0, a1, a2, a3, a4, a5] := by intros; unfold am_pad; rw [nl194]; rfl
theorem ln194 : 6 ≤ am_nL 194 := by rw [nl194]; decide
theorem o194 : am_oc 194 = 15 := by decide +kernel
theorem m15_1 : am_mlk 15 1 5 0 = true := by decide +kernel
theorem pi194_7 : am_pfi 194 15 7 15 0 = true := by decide +kernel
theorem pi194_13 : am_pfi 194 15 13 15 1 = true := by decide +kernel
theorem pi194_16 : am_pfi 194 15 16 15 2 = true := by decide +kernel
theorem pi194_19 : am_pfi 194 15 19 15 3 = true := by decide +kernel
theorem pi194_22 : am_pfi 194 15 22 15 4 = true := by decide +kernel
theorem pi194_25 : am_pfi 194 15 25 15 5 = true := by decide +kernel
theorem rt194 : am_rt 194 = none := by decide +kernel
theorem pi197_100 : am_pfi 197 17 100 17 11 = true := by decide +kernel
theorem t196 {g : AG} {M : AM} {O : Nat} {A : YA} {s q : Int → Int} {b : Int} {x1 : Int} (hY : Yd g M O A s q) (hV : Val b q s) (hO : O + 348 ≤ 100 + gN g ∨ 100 + gN g < O) (hx : 0 ≤ x1 ∧ x1 < q 0) (h3 : s 3 < 80) : Ok 1 196 0 [aR 101, aI x1] [] g M (fun o g1 M1 => o = .inl none ∧ ∃ A1 : YA, A1.2 = A.2 ∧ Yd g1 M1 O A1 (addT s x1 (q (2 + x1))) q ∧ Fr (FY O) 1 16 g M g1 M1) := by
  have hQ := V_q hV
  have y3 := V_3 hV
  have y4 := V_4 hV
  have y5 := V_5 hV
  have yq0 := Q_0 hQ
  have yq1 := Q_1 hQ
  have e0 : Fr (FY O) 0 0 g M g M := Fr.rfl
  refine ok_aloadn (pc' := 1) i196_0 rfl rfl <| ok_getfr (r := 107) (pc' := 4) i196_1 o196 gr17_34 (hY.gr.ky) (hY.gr.r4) rfl <| ok_aloadn (pc' := 5) i196_4 rfl rfl <| ok_getfi (v := (s 3)) (pc' := 8) i196_5 o196 gi17_97 (hY.gr.ky) ((Yd.n3 hY)) rfl <| ?_
  refine ok_nw (sl := 6) (pc' := 11) i196_8 o196 ck17_32 (by decide) (by decide) rfl (fun xr1 g1 M1 hx1 hn1 hA1 e1 => ?_)
  have hYa1 := Yd.f0 hY e1
  have f1 := Fr.trans e0 (Fr.of0 e1)
  refine ok_dup (pc' := 12) i196_11 rfl rfl <| ok_aloadn (pc' := 13) i196_12 rfl rfl <| ok_getfi (v := (s 3)) (pc' := 16) i196_13 o196 gi17_97 (hYa1.gr.ky) ((Yd.n3 hYa1)) rfl <| ok_iloadn (pc' := 17) i196_16 rfl rfl <| ok_aloadn (pc' := 18) i196_17 rfl rfl <| ok_getfr (r := 104) (pc' := 21) i196_18 o196 gr17_22 (hYa1.gr.ky) (hYa1.gr.r1) rfl <| ok_iloadn (pc' := 22) i196_21 rfl rfl <| ok_aaload (r := (A.K x1)) (pc' := 23) i196_22 (hYa1.gr.k4) (by decide) (hYa1.gr.l4) (by omega) ((hYa1.gr.kk x1 (by omega) (by omega)).1) rfl <| ?_
  refine ok_iconst (pc' := 24) i196_23 rfl <| ?_
  have z2 : 1 ≤ q (2 + x1) ∧ q (2 + x1) ≤ 200 := Q_2 hQ (by omega) (by omega)
  refine ok_iaload (v := (q (2 + x1))) (pc' := 25) i196_24 ((hYa1.gr.kk x1 (by omega) (by omega)).2.2.1) (by decide) ((hYa1.gr.kk x1 (by omega) (by omega)).2.2.2) (by decide) ((hYa1.mr.kk x1 (by omega) (by omega)).1) rfl <| ok_cc i196_25 rfl (cl_i o196 (Or.inl m17_121) na193 rfl rfl (bt rfl) (bt rfl) rfl (by rw [hA1.1]; decide)) ln193 (pd193 (aR xr1) (aI (s 3)) (aI x1) (aI (q (2 + x1)))) <| ok_aloadn (pc' := 1) i193_0 rfl rfl <| ok_objinit (pc' := 4) i193_1 o193 m16_1 (by rw [hA1.1]; decide) (bt rfl) rfl <| ok_aloadn (pc' := 5) i193_4 rfl rfl <| ok_iloadn (pc' := 6) i193_5 rfl rfl <| ok_putfj (kk := 0) (pc' := 9) i193_6 o193 pi193_7 (hA1.1) rfl rfl <| ?_
  have e3 := Fr.up (x := 0) (v := (s 3)) e1 (Or.inr (Nat.le_of_eq hx1))
  have hYa3 := Yd.f0 hY e3
  have f3 := Fr.trans e0 (Fr.of0 e3)
  have hA3 := OA.up (x := 0) (v := (s 3)) hA1
  refine ok_aloadn (pc' := 10) i193_9 rfl rfl <| ok_iloadn (pc' := 11) i193_10 rfl rfl <| ok_putfj (kk := 1) (pc' := 14) i193_11 o193 pi193_13 (hA3.1) rfl rfl <| ?_
  have e4 := Fr.up (x := 1) (v := x1) e3 (Or.inr (Nat.le_of_eq hx1))
  have hYa4 := Yd.f0 hY e4
  have f4 := Fr.trans e0 (Fr.of0 e4)
  have hA4 := OA.up (x := 1) (v := x1) hA3
  refine ok_aloadn (pc' := 15) i193_14 rfl rfl <| ok_iloadn (pc' := 16) i193_15 rfl rfl <| ok_putfj (kk := 2) (pc' := 19) i193_16 o193 pi193_16 (hA4.1) rfl rfl <| ?_
  have e5 := Fr.up (x := 2) (v := (q (2 + x1))) e4 (Or.inr (Nat.le_of_eq hx1))
  have hYa5 := Yd.f0 hY e5
  have f5 := Fr.trans e0 (Fr.of0 e5)
  have hA5 := OA.up (x := 2) (v := (q (2 + x1))) hA4
  refine ok_vret i193_19 rt193 <| kt_0 (pc' := 28) rfl <| ?_
  refine ok_aastF (pc' := 29) i196_28 (Or.inr (Or.inr (Or.inl ⟨hYa5.gr.k7, hA5.1⟩))) (by rw [hYa5.gr.l7]; omega) rfl (fun g6 n6 z6 r6 k6 o6 s6 => ?_)
  have hYb6 := Yd.aa hYa5 (Or.inr (Or.inl ⟨rfl, by omega⟩)) n6 k6 o6 s6
  have f6 := Fr.aa f5 (fy_6 hYb6.gr.o (by omega)) n6 z6 k6 s6
  have hA6 := OA.aa hA5 k6
  refine ok_aloadn (pc' := 30) i196_29 rfl rfl <| ok_dup (pc' := 31) i196_30 rfl rfl <| ok_getfi (v := (s 3)) (pc' := 34) i196_31 o196 gi17_97 (hYb6.gr.ky) ((Yd.n3 hYb6)) rfl <| ok_iconst (pc' := 35) i196_34 rfl <| ok_iadd (v := ((s 3) + 1)) (pc' := 36) i196_35 rfl rfl <| ok_putfj (kk := 10) (pc' := 39) i196_36 o196 pi196_97 (hYb6.gr.ky) rfl rfl <| ?_
  have hou : Ou g6 O xr1 := ⟨by have := hY.gr.n; omega, by omega, by omega⟩
  have hno : ∀ j : Int, 0 ≤ j → j < s 3 → A.R j ≠ xr1 := fun j j0 j1 e => by have := (hY.gr.rr j j0 j1).2.1.2.1; omega
  have hYz := Yd.addR (k := x1) (l := q (2 + x1)) hYb6 h3 r6 hou hA6.1 hno (hA6.2 0) (hA6.2 1) (hA6.2 2) (hA6.2 3) (hA6.2 4) (hA6.2 5)
  have fz := frw f6 (fy_101 hYz.gr.o) hYz
  refine ok_vret i196_39 rt196 <| ?_
  exact ⟨rfl, (fun j => if j = s 3 then xr1 else A.R j, A.2), rfl, hYz, Fr.w fz (by omega) (by omega)⟩
theorem w197_39 {g : AG} {M : AM} {O : Nat} {A : YA} {s q : Int → Int} {b : Int} {x1 x2 x3 x4 : Int} {Q : AO → AG → AM → Prop} (hY : Yd g M O A s q) (hV : Val b q s) (hO : O + 348 ≤ 100 + gN g ∨ 100 + gN g < O) (h4 : s 4 < 16) (K : ∀ (a : Nat) (A1 : YA) (g1 : AG) (M1 : AM), A1.1 = A.1 → A1.2.2 = A.2.2 → A1.D (s 4) = a → Yd g1 M1 O A1 (ordS s x1 x2 x3 x4) q → Fr (FY O) 1 16 g M g1 M1 → Ok 1 197 39 [aR 101, aI x1, aI x2, aI x3, aI x4, aR a] [] g1 M1 Q) : Ok 1 197 0 [aR 101, aI x1, aI x2, aI x3, aI x4, aU] [] g M Q := by
  have hQ := V_q hV
  have y3 := V_3 hV
  have y4 := V_4 hV
  have y5 := V_5 hV
  have yq0 := Q_0 hQ
  have yq1 := Q_1 hQ
  have e0 : Fr (FY O) 0 0 g M g M := Fr.rfl
  refine ok_nw (sl := 9) (pc' := 3) i197_0 o197 ck17_38 (by decide) (by decide) rfl (fun xr1 g1 M1 hx1 hn1 hA1 e1 => ?_)
  have hYa1 := Yd.f0 hY e1
  have f1 := Fr.trans e0 (Fr.of0 e1)
  refine ok_dup (pc' := 4) i197_3 rfl rfl <| ok_aloadn (pc' := 5) i197_4 rfl rfl <| ok_getfi (v := (s 4)) (pc' := 8) i197_5 o197 gi17_100 (hYa1.gr.ky) ((Yd.n4 hYa1)) rfl <| ok_iloadn (pc' := 9) i197_8 rfl rfl <| ok_iloadn (pc' := 10) i197_9 rfl rfl <| ok_iloadn (pc' := 11) i197_10 rfl rfl <| ok_iload (pc' := 13) i197_11 rfl rfl <| ok_cc i197_13 rfl (cl_i o197 (Or.inl m17_124) na194 rfl rfl (bt rfl) (bt rfl) rfl (by rw [hA1.1]; decide)) ln194 (pd194 (aR xr1) (aI (s 4)) (aI x1) (aI x2) (aI x3) (aI x4)) <| ?_
  refine ok_aloadn (pc' := 1) i194_0 rfl rfl <| ok_objinit (pc' := 4) i194_1 o194 m15_1 (by rw [hA1.1]; decide) (bt rfl) rfl <| ok_aloadn (pc' := 5) i194_4 rfl rfl <| ok_iloadn (pc' := 6) i194_5 rfl rfl <| ok_putfj (kk := 0) (pc' := 9) i194_6 o194 pi194_7 (hA1.1) rfl rfl <| ?_
  have e2 := Fr.up (x := 0) (v := (s 4)) e1 (Or.inr (Nat.le_of_eq hx1))
  have hYa2 := Yd.f0 hY e2
  have f2 := Fr.trans e0 (Fr.of0 e2)
  have hA2 := OA.up (x := 0) (v := (s 4)) hA1
  refine ok_aloadn (pc' := 10) i194_9 rfl rfl <| ok_iloadn (pc' := 11) i194_10 rfl rfl <| ok_putfj (kk := 1) (pc' := 14) i194_11 o194 pi194_13 (hA2.1) rfl rfl <| ?_
  have e3 := Fr.up (x := 1) (v := x1) e2 (Or.inr (Nat.le_of_eq hx1))
  have hYa3 := Yd.f0 hY e3
  have f3 := Fr.trans e0 (Fr.of0 e3)
  have hA3 := OA.up (x := 1) (v := x1) hA2
  refine ok_aloadn (pc' := 15) i194_14 rfl rfl <| ok_iloadn (pc' := 16) i194_15 rfl rfl <| ok_putfj (kk := 2) (pc' := 19) i194_16 o194 pi194_16 (hA3.1) rfl rfl <| ?_
  have e4 := Fr.up (x := 2) (v := x2) e3 (Or.inr (Nat.le_of_eq hx1))
  have hYa4 := Yd.f0 hY e4
  have f4 := Fr.trans e0 (Fr.of0 e4)
  have hA4 := OA.up (x := 2) (v := x2) hA3
  refine ok_aloadn (pc' := 20) i194_19 rfl rfl <| ok_iload (pc' := 22) i194_20 rfl rfl <| ok_putfj (kk := 3) (pc' := 25) i194_22 o194 pi194_19 (hA4.1) rfl rfl <| ?_
  have e5 := Fr.up (x := 3) (v := x3) e4 (Or.inr (Nat.le_of_eq hx1))
  have hYa5 := Yd.f0 hY e5
  have f5 := Fr.trans e0 (Fr.of0 e5)
  have hA5 := OA.up (x := 3) (v := x3) hA4
  refine ok_aloadn (pc' := 26) i194_25 rfl rfl <| ok_iload (pc' := 28) i194_26 rfl rfl <| ok_putfj (kk := 4) (pc' := 31) i194_28 o194 pi194_22 (hA5.1) rfl rfl <| ?_
  have e6 := Fr.up (x := 4) (v := x4) e5 (Or.inr (Nat.le_of_eq hx1))
  have hYa6 := Yd.f0 hY e6
  have f6 := Fr.trans e0 (Fr.of0 e6)
  have hA6 := OA.up (x := 4) (v := x4) hA5
  refine ok_aloadn (pc' := 32) i194_31 rfl rfl <| ok_iloadn (pc' := 33) i194_32 rfl rfl <| ok_putfj (kk := 5) (pc' := 36) i194_33 o194 pi194_25 (hA6.1) rfl rfl <| ?_
  have e7 := Fr.up (x := 5) (v := x2) e6 (Or.inr (Nat.le_of_eq hx1))
  have hYa7 := Yd.f0 hY e7
  have f7 := Fr.trans e0 (Fr.of0 e7)
  have hA7 := OA.up (x := 5) (v := x2) hA6
  refine ok_vret i194_36 rt194 <| kt_0 (pc' := 16) rfl <| ok_astore (pc' := 18) (ls' := [aR 101, aI x1, aI x2, aI x3, aI x4, aR xr1]) i197_16 (bt rfl) rfl rfl <| ok_aloadn (pc' := 19) i197_18 rfl rfl <| ok_getfr (r := 108) (pc' := 22) i197_19 o197 gr17_40 (hYa7.gr.ky) (hYa7.gr.r5) rfl <| ok_aloadn (pc' := 23) i197_22 rfl rfl <| ok_getfi (v := (s 4)) (pc' := 26) i197_23 o197 gi17_100 (hYa7.gr.ky) ((Yd.n4 hYa7)) rfl <| ok_aload (pc' := 28) i197_26 rfl rfl <| ?_
  refine ok_aastF (pc' := 29) i197_28 (Or.inr (Or.inr (Or.inr ⟨hYa7.gr.k8, hA7.1⟩))) (by rw [hYa7.gr.l8]; omega) rfl (fun g8 n8 z8 r8 k8 o8 s8 => ?_)
  have hYb8 := Yd.aa hYa7 (Or.inr (Or.inr ⟨rfl, by omega⟩)) n8 k8 o8 s8
  have f8 := Fr.aa f7 (fy_6 hYb8.gr.o (by omega)) n8 z8 k8 s8
  have hA8 := OA.aa hA7 k8
  refine ok_aloadn (pc' := 30) i197_29 rfl rfl <| ok_dup (pc' := 31) i197_30 rfl rfl <| ok_getfi (v := (s 4)) (pc' := 34) i197_31 o197 gi17_100 (hYb8.gr.ky) ((Yd.n4 hYb8)) rfl <| ok_iconst (pc' := 35) i197_34 rfl <| ok_iadd (v := ((s 4) + 1)) (pc' := 36) i197_35 rfl rfl <| ok_putfj (kk := 11) (pc' := 39) i197_36 o197 pi197_100 (hYb8.gr.ky) rfl rfl <| ?_
  have hou : Ou g8 O xr1 := ⟨by have := hY.gr.n; omega, by omega, by omega⟩
  have hno : ∀ j : Int, 0 ≤ j → j < s 4 → A.D j ≠ xr1 := fun j j0 j1 e => by have := (hY.gr.dd j j0 j1).2.1.2.1; omega
  have hYz := Yd.addD (l := x1) (n := x2) (v := x3) (w := x4) hYb8 h4 r8 hou hA8.1 hno (hA8.2 0) (hA8.2 1) (hA8.2 2) (hA8.2 3) (hA8.2 4) (hA8.2 5) (hA8.2 6) (hA8.2 7) (hA8.2 8)
  have fz := frw f8 (fy_101 hYz.gr.o) hYz
  exact K _ (A.1, fun j => if j = s 4 then xr1 else A.D j, A.2.2) _ _ rfl rfl (if_pos rfl) hYz (Fr.w fz (by omega) (by omega))
