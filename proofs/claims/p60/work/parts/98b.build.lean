/-! WHILE IT IS BUILT (by program, wip/p60/gen) -/
def OX : Nat := 1000000000
def FI : Nat → Prop := fun c => c = 101 ∨ c = 104 ∨ c = 105 ∨ c = 107 ∨ c = 108
def FT (V : Nat) : Nat → Prop := fun c => c = 102 ∨ c = V
/-- the yard while it is built: its rods and its text -/
def YI (g : AG) (M : AM) (L : Nat) (d : Int) (t : Tx) (A : YA) (s q : Int → Int) (V : Nat) (C : Int) (n z : Nat) : Prop := Yd g M OX A s q ∧ SB g M 102 V C t ∧ Dr g M L d ∧ BS g M ∧ gR g 101 0 = 102 ∧ C ≤ 2000 ∧ (V = 103 ∨ 111 ≤ V) ∧ gN g ≤ n ∧ (gS g : Int) ≤ z + 2 * C
section YI
variable {g g1 : AG} {M M1 : AM} {L V V1 n z nc ns : Nat} {d C C1 : Int} {t t1 : Tx} {A A1 : YA} {s s1 q q1 : Int → Int}
theorem YI.y (h : YI g M L d t A s q V C n z) : Yd g M OX A s q := h.1
theorem YI.sb (h : YI g M L d t A s q V C n z) : SB g M 102 V C t := h.2.1
theorem YI.dr (h : YI g M L d t A s q V C n z) : Dr g M L d := h.2.2.1
theorem YI.bs (h : YI g M L d t A s q V C n z) : BS g M := h.2.2.2.1
theorem YI.r (h : YI g M L d t A s q V C n z) : gR g 101 0 = 102 := h.2.2.2.2.1
theorem YI.c (h : YI g M L d t A s q V C n z) : C ≤ 2000 := h.2.2.2.2.2.1
theorem YI.up {n' z' : Nat} (h : YI g M L d t A s q V C n z) (h1 : n ≤ n') (h2 : z ≤ z') : YI g M L d t A s q V C n' z' := by
  obtain ⟨a1, a2, a3, a4, a5, a6, a7, a8, a9⟩ := h
  exact ⟨a1, a2, a3, a4, a5, a6, a7, by omega, by omega⟩
/-- letters more -/
theorem YI.ap {m : Int} (h : YI g M L d t A s q V C n z) (hS : SB g1 M1 102 V1 C1 t1) (hG : Gr g M g1 M1 102 V V1 C C1 m) (hm : m ≤ 1000) : YI g1 M1 L d t1 A s q V1 C1 (n + 1) z := by
  obtain ⟨a1, a2, a3, a4, a5, a6, a7, a8, a9⟩ := h
  obtain ⟨e, hv, hc, hc2⟩ := hG
  have hz := a2.z
  have hn := a1.gr.n
  have hkv := a2.v
  have hF : ∀ c : Nat, c ≠ 102 → c ≠ V → ¬ FB 102 V c := fun c h1 h2 hf => by unfold FB at hf; omega
  refine ⟨a1.fk e (fun c hc => hF c (by omega) (by omega)) (fun c h1 h2 h3 => hF c (by omega) (fun e => h3 (by rw [e]; exact hkv))), hS, ?_, a4.fr e (fun c h1 => hF c (by omega) (by omega)), by rw [e.r (by omega) (hF 101 (by omega) (by omega))]; exact a5, by omega, by omega, by have := e.2.1; omega, by have := e.2.2.1; omega⟩
  obtain ⟨h1, h2, h3, h4, h5, h6⟩ := a3
  exact ⟨(e.k (by omega)).trans h1, by rw [e.r (by omega) (hF 100 (by omega) (by omega))]; exact h2, (e.k (by omega)).trans h3, (e.l (by omega)).trans h4, by rw [e.m (by omega) (hF 100 (by omega) (by omega))]; exact h5, h6⟩
/-- a draw -/
theorem YI.dw (h : YI g M L d t A s q V C n z) (hd : d + 1 ≤ 1000000) : YI g (up2 M 100 1 (d + 1)) L (d + 1) t A s q V C n z := by
  obtain ⟨a1, a2, a3, a4, a5, a6, a7, a8, a9⟩ := h
  have e : Fr (fun c => c = 100) 0 0 g M g (up2 M 100 1 (d + 1)) := Fr.up (F := fun c => c = 100) (a := 100) (x := 1) (v := d + 1) Fr.rfl (Or.inl rfl)
  exact ⟨a1.mm (dm_ne (v := d + 1)), a2.fr e (fun h => absurd h (by decide)) (fun h => by have h9 : V = 100 := h; omega), a3.nx hd, fun c c0 c1 => ⟨(a4 c c0 c1).1, by rw [up2_na (by omega)]; exact (a4 c c0 c1).2⟩, a5, a6, a7, a8, a9⟩
/-- a thing that is made -/
theorem YI.f0 (h : YI g M L d t A s q V C n z) (e : Fr FN nc ns g M g1 M1) : YI g1 M1 L d t A s q V C (n + nc) (z + ns) := by
  obtain ⟨a1, a2, a3, a4, a5, a6, a7, a8, a9⟩ := h
  have hn := a1.gr.n
  have hF : ∀ c : Nat, ¬ FN c := fun c e => e
  refine ⟨a1.f0 e, a2.fr e (hF _) (hF _), ?_, a4.fr e (fun c _ => hF c), by rw [e.r (by omega) (hF _)]; exact a5, a6, a7, by have := e.2.1; omega, by have := e.2.2.1; omega⟩
  obtain ⟨h1, h2, h3, h4, h5, h6⟩ := a3
  exact ⟨(e.k (by omega)).trans h1, by rw [e.r (by omega) (hF _)]; exact h2, (e.k (by omega)).trans h3, (e.l (by omega)).trans h4, by rw [e.m (by omega) (hF _)]; exact h5, h6⟩
/-- a change of the yard -/
theorem YI.ch (h : YI g M L d t A s q V C n z) (hY : Yd g1 M1 OX A1 s1 q1) (e : Fr FI nc ns g M g1 M1) (hr : gR g1 101 0 = gR g 101 0) : YI g1 M1 L d t A1 s1 q1 V C (n + nc) (z + ns) := by
  obtain ⟨a1, a2, a3, a4, a5, a6, a7, a8, a9⟩ := h
  have hn := a1.gr.n
  have hF : ∀ c : Nat, c ≠ 101 → c ≠ 104 → c ≠ 105 → c ≠ 107 → c ≠ 108 → ¬ FI c := fun c h1 h2 h3 h4 h5 hf => by unfold FI at hf; omega
  refine ⟨hY, a2.fr e (hF _ (by omega) (by omega) (by omega) (by omega) (by omega)) (hF _ (by omega) (by omega) (by omega) (by omega) (by omega)), ?_, a4.fr e (fun c h1 => hF c (by omega) (by omega) (by omega) (by omega) (by omega)), hr.trans a5, a6, a7, by have := e.2.1; omega, by have := e.2.2.1; omega⟩
  obtain ⟨h1, h2, h3, h4, h5, h6⟩ := a3
  have h100 := hF 100 (by omega) (by omega) (by omega) (by omega) (by omega)
  exact ⟨(e.k (by omega)).trans h1, by rw [e.r (by omega) h100]; exact h2, (e.k (by omega)).trans h3, (e.l (by omega)).trans h4, by rw [e.m (by omega) h100]; exact h5, h6⟩
end YI
/-- what a text that is said means -/
theorem PI.val {t : Tx} {q s : Int → Int} (h : PI t q s) : Val 0 q s ∧ KZ s ∧ ZR s ∧ s 3 ≤ 24 ∧ s 4 ≤ 12 := txtL_ok h.1 Z0_zro (h.fin (by_ := t.2) (fun i _ _ => rfl))
theorem b196 {g : AG} {M : AM} {O : Nat} {A : YA} {s q : Int → Int} {b : Int} {x1 : Int} (hY : Yd g M O A s q) (hV : Val b q s) (hO : 100 + gN g < O) (hx : 0 ≤ x1 ∧ x1 < q 0) (h3 : s 3 < 80) : Ok 1 196 0 [aR 101, aI x1] [] g M (fun o g1 M1 => o = .inl none ∧ ∃ A1 : YA, Yd g1 M1 O A1 (addT s x1 (q (2 + x1))) q ∧ Fr FI 1 16 g M g1 M1 ∧ gR g1 101 0 = gR g 101 0) := by
  have hQ := V_q hV
  have y3 := V_3 hV
  have y4 := V_4 hV
  have y5 := V_5 hV
  have yq0 := Q_0 hQ
  have yq1 := Q_1 hQ
  have e0 : Fr (FI) 0 0 g M g M := Fr.rfl
  refine ok_aloadn (pc' := 1) i196_0 rfl rfl <| ok_getfr (r := 107) (pc' := 4) i196_1 o196 gr17_34 (hY.gr.ky) (hY.gr.r4) rfl <| ok_aloadn (pc' := 5) i196_4 rfl rfl <| ok_getfi (v := (s 3)) (pc' := 8) i196_5 o196 gi17_97 (hY.gr.ky) ((Yd.n3 hY)) rfl <| ?_
  refine ok_nw (sl := 6) (pc' := 11) i196_8 o196 ck17_32 (by decide) (by decide) rfl (fun xr1 g1 M1 hx1 hn1 hA1 e1 => ?_)
  have hYa1 := Yd.f0 hY e1
  have f1 := Fr.trans e0 (Fr.of0 e1)
  refine ok_dup (pc' := 12) i196_11 rfl rfl <| ok_aloadn (pc' := 13) i196_12 rfl rfl <| ok_getfi (v := (s 3)) (pc' := 16) i196_13 o196 gi17_97 (hYa1.gr.ky) ((Yd.n3 hYa1)) rfl <| ok_iloadn (pc' := 17) i196_16 rfl rfl <| ok_aloadn (pc' := 18) i196_17 rfl rfl <| ok_getfr (r := 104) (pc' := 21) i196_18 o196 gr17_22 (hYa1.gr.ky) (hYa1.gr.r1) rfl <| ok_iloadn (pc' := 22) i196_21 rfl rfl <| ok_aaload (r := (A.K x1)) (pc' := 23) i196_22 (hYa1.gr.k4) (by decide) (hYa1.gr.l4) (by omega) ((hYa1.gr.kk x1 (by omega) (by omega)).1) rfl <| ?_
  refine ok_iconst (pc' := 24) i196_23 rfl <| ?_
  have z2 : 1 ≤ q (2 + x1) ∧ q (2 + x1) ≤ 200 := Q_2 hQ (by omega) (by omega)
  refine ok_iaload (v := (q (2 + x1))) (pc' := 25) i196_24 ((hYa1.gr.kk x1 (by omega) (by omega)).2.2.1) (by decide) ((hYa1.gr.kk x1 (by omega) (by omega)).2.2.2) (by decide) ((hYa1.mr.kk x1 (by omega) (by omega)).1) rfl <| ok_cc i196_25 rfl (cl_i o196 (Or.inl m17_121) na193 rfl rfl (bt rfl) (bt rfl) rfl (by rw [hA1.1]; decide)) ln193 (pd193 (aR xr1) (aI (s 3)) (aI x1) (aI (q (2 + x1)))) <| ok_aloadn (pc' := 1) i193_0 rfl rfl <| ok_objinit (pc' := 4) i193_1 o193 m16_1 (by rw [hA1.1]; decide) (bt rfl) rfl <| ok_aloadn (pc' := 5) i193_4 rfl rfl <| ok_iloadn (pc' := 6) i193_5 rfl rfl <| ok_putfj (kk := 0) (pc' := 9) i193_6 o193 pi193_7 (hA1.1) rfl rfl <| ?_
  have e3 := Fr.up (x := 0) (v := (s 3)) e1 (Or.inr (Nat.le_of_eq hx1))
  have hYa3 := Yd.f0 hY e3
  have f3 := Fr.trans e0 (Fr.of0 e3)
  have hA3 := OA.up (x := 0) (v := (s 3)) hA1
  refine ok_aloadn (pc' := 10) i193_9 rfl rfl <| ok_iloadn (pc' := 11) i193_10 rfl rfl <| ok_putfj (kk := 1) (pc' := 14) i193_11 o193 pi193_13 (hA3.1) rfl rfl <| ?_
  have e4 := Fr.up (x := 1) (v := x1) e3 (Or.inr (Nat.le_of_eq hx1))
  have hYa4 := Yd.f0 hY e4
  have f4 := Fr.trans e0 (Fr.of0 e4)
  have hA4 := OA.up (x := 1) (v := x1) hA3
  refine ok_aloadn (pc' := 15) i193_14 rfl rfl <| ok_iloadn (pc' := 16) i193_15 rfl rfl <| ok_putfj (kk := 2) (pc' := 19) i193_16 o193 pi193_16 (hA4.1) rfl rfl <| ?_
  have e5 := Fr.up (x := 2) (v := (q (2 + x1))) e4 (Or.inr (Nat.le_of_eq hx1))
  have hYa5 := Yd.f0 hY e5
  have f5 := Fr.trans e0 (Fr.of0 e5)
  have hA5 := OA.up (x := 2) (v := (q (2 + x1))) hA4
  refine ok_vret i193_19 rt193 <| kt_0 (pc' := 28) rfl <| ?_
  refine ok_aastF (pc' := 29) i196_28 (Or.inr (Or.inr (Or.inl ⟨hYa5.gr.k7, hA5.1⟩))) (by rw [hYa5.gr.l7]; omega) rfl (fun g6 n6 z6 r6 k6 o6 s6 => ?_)
  have hYb6 := Yd.aa hYa5 (Or.inr (Or.inl ⟨rfl, by omega⟩)) n6 k6 o6 s6
  have f6 := Fr.aa f5 (by unfold FI; omega) n6 z6 k6 s6
  have hA6 := OA.aa hA5 k6
  refine ok_aloadn (pc' := 30) i196_29 rfl rfl <| ok_dup (pc' := 31) i196_30 rfl rfl <| ok_getfi (v := (s 3)) (pc' := 34) i196_31 o196 gi17_97 (hYb6.gr.ky) ((Yd.n3 hYb6)) rfl <| ok_iconst (pc' := 35) i196_34 rfl <| ok_iadd (v := ((s 3) + 1)) (pc' := 36) i196_35 rfl rfl <| ok_putfj (kk := 10) (pc' := 39) i196_36 o196 pi196_97 (hYb6.gr.ky) rfl rfl <| ?_
  have hou : Ou g6 O xr1 := ⟨by have := hY.gr.n; omega, by omega, by omega⟩
  have hno : ∀ j : Int, 0 ≤ j → j < s 3 → A.R j ≠ xr1 := fun j j0 j1 e => by have := (hY.gr.rr j j0 j1).2.1.2.1; omega
  have hYz := Yd.addR (k := x1) (l := q (2 + x1)) hYb6 h3 r6 hou hA6.1 hno (hA6.2 0) (hA6.2 1) (hA6.2 2) (hA6.2 3) (hA6.2 4) (hA6.2 5)
  have fz := frw f6 (by unfold FI; omega) hYz
  refine ok_vret i196_39 rt196 <| ?_
  exact ⟨rfl, (fun j => if j = s 3 then xr1 else A.R j, A.2), hYz, Fr.w fz (by omega) (by omega), by rw [(s6 101 (by decide)).2.2, e1.r0 (by have := hY.gr.n; omega)]⟩
theorem b197_39 {g : AG} {M : AM} {O : Nat} {A : YA} {s q : Int → Int} {b : Int} {x1 x2 x3 x4 : Int} {Q : AO → AG → AM → Prop} (hY : Yd g M O A s q) (hV : Val b q s) (hO : 100 + gN g < O) (h4 : s 4 < 16) (K : ∀ (a : Nat) (A1 : YA) (g1 : AG) (M1 : AM), A1.D (s 4) = a → Yd g1 M1 O A1 (ordS s x1 x2 x3 x4) q → Fr FI 1 16 g M g1 M1 → gR g1 101 0 = gR g 101 0 → Ok 1 197 39 [aR 101, aI x1, aI x2, aI x3, aI x4, aR a] [] g1 M1 Q) : Ok 1 197 0 [aR 101, aI x1, aI x2, aI x3, aI x4, aU] [] g M Q := by
  have hQ := V_q hV
  have y3 := V_3 hV
  have y4 := V_4 hV
  have y5 := V_5 hV
  have yq0 := Q_0 hQ
  have yq1 := Q_1 hQ
  have e0 : Fr (FI) 0 0 g M g M := Fr.rfl
  refine ok_nw (sl := 9) (pc' := 3) i197_0 o197 ck17_38 (by decide) (by decide) rfl (fun xr1 g1 M1 hx1 hn1 hA1 e1 => ?_)
  have hYa1 := Yd.f0 hY e1
  have f1 := Fr.trans e0 (Fr.of0 e1)
  refine ok_dup (pc' := 4) i197_3 rfl rfl <| ok_aloadn (pc' := 5) i197_4 rfl rfl <| ok_getfi (v := (s 4)) (pc' := 8) i197_5 o197 gi17_100 (hYa1.gr.ky) ((Yd.n4 hYa1)) rfl <| ok_iloadn (pc' := 9) i197_8 rfl rfl <| ok_iloadn (pc' := 10) i197_9 rfl rfl <| ok_iloadn (pc' := 11) i197_10 rfl rfl <| ok_iload (pc' := 13) i197_11 rfl rfl <| ok_cc i197_13 rfl (cl_i o197 (Or.inl m17_124) na194 rfl rfl (bt rfl) (bt rfl) rfl (by rw [hA1.1]; decide)) ln194 (pd194 (aR xr1) (aI (s 4)) (aI x1) (aI x2) (aI x3) (aI x4)) <| ?_
  refine ok_aloadn (pc' := 1) i194_0 rfl rfl <| ok_objinit (pc' := 4) i194_1 o194 m15_1 (by rw [hA1.1]; decide) (bt rfl) rfl <| ok_aloadn (pc' := 5) i194_4 rfl rfl <| ok_iloadn (pc' := 6) i194_5 rfl rfl <| ok_putfj (kk := 0) (pc' := 9) i194_6 o194 pi194_7 (hA1.1) rfl rfl <| ?_
  have e2 := Fr.up (x := 0) (v := (s 4)) e1 (Or.inr (Nat.le_of_eq hx1))
  have hYa2 := Yd.f0 hY e2
  have f2 := Fr.trans e0 (Fr.of0 e2)
  have hA2 := OA.up (x := 0) (v := (s 4)) hA1
  refine ok_aloadn (pc' := 10) i194_9 rfl rfl <| ok_iloadn (pc' := 11) i194_10 rfl rfl <| ok_putfj (kk := 1) (pc' := 14) i194_11 o194 pi194_13 (hA2.1) rfl rfl <| ?_
  have e3 := Fr.up (x := 1) (v := x1) e2 (Or.inr (Nat.le_of_eq hx1))
  have hYa3 := Yd.f0 hY e3
  have f3 := Fr.trans e0 (Fr.of0 e3)
  have hA3 := OA.up (x := 1) (v := x1) hA2
  refine ok_aloadn (pc' := 15) i194_14 rfl rfl <| ok_iloadn (pc' := 16) i194_15 rfl rfl <| ok_putfj (kk := 2) (pc' := 19) i194_16 o194 pi194_16 (hA3.1) rfl rfl <| ?_
  have e4 := Fr.up (x := 2) (v := x2) e3 (Or.inr (Nat.le_of_eq hx1))
  have hYa4 := Yd.f0 hY e4
  have f4 := Fr.trans e0 (Fr.of0 e4)
  have hA4 := OA.up (x := 2) (v := x2) hA3
  refine ok_aloadn (pc' := 20) i194_19 rfl rfl <| ok_iload (pc' := 22) i194_20 rfl rfl <| ok_putfj (kk := 3) (pc' := 25) i194_22 o194 pi194_19 (hA4.1) rfl rfl <| ?_
  have e5 := Fr.up (x := 3) (v := x3) e4 (Or.inr (Nat.le_of_eq hx1))
  have hYa5 := Yd.f0 hY e5
  have f5 := Fr.trans e0 (Fr.of0 e5)
  have hA5 := OA.up (x := 3) (v := x3) hA4
  refine ok_aloadn (pc' := 26) i194_25 rfl rfl <| ok_iload (pc' := 28) i194_26 rfl rfl <| ok_putfj (kk := 4) (pc' := 31) i194_28 o194 pi194_22 (hA5.1) rfl rfl <| ?_
  have e6 := Fr.up (x := 4) (v := x4) e5 (Or.inr (Nat.le_of_eq hx1))
  have hYa6 := Yd.f0 hY e6
  have f6 := Fr.trans e0 (Fr.of0 e6)
  have hA6 := OA.up (x := 4) (v := x4) hA5
  refine ok_aloadn (pc' := 32) i194_31 rfl rfl <| ok_iloadn (pc' := 33) i194_32 rfl rfl <| ok_putfj (kk := 5) (pc' := 36) i194_33 o194 pi194_25 (hA6.1) rfl rfl <| ?_
  have e7 := Fr.up (x := 5) (v := x2) e6 (Or.inr (Nat.le_of_eq hx1))
  have hYa7 := Yd.f0 hY e7
  have f7 := Fr.trans e0 (Fr.of0 e7)
  have hA7 := OA.up (x := 5) (v := x2) hA6
  refine ok_vret i194_36 rt194 <| kt_0 (pc' := 16) rfl <| ok_astore (pc' := 18) (ls' := [aR 101, aI x1, aI x2, aI x3, aI x4, aR xr1]) i197_16 (bt rfl) rfl rfl <| ok_aloadn (pc' := 19) i197_18 rfl rfl <| ok_getfr (r := 108) (pc' := 22) i197_19 o197 gr17_40 (hYa7.gr.ky) (hYa7.gr.r5) rfl <| ok_aloadn (pc' := 23) i197_22 rfl rfl <| ok_getfi (v := (s 4)) (pc' := 26) i197_23 o197 gi17_100 (hYa7.gr.ky) ((Yd.n4 hYa7)) rfl <| ok_aload (pc' := 28) i197_26 rfl rfl <| ?_
  refine ok_aastF (pc' := 29) i197_28 (Or.inr (Or.inr (Or.inr ⟨hYa7.gr.k8, hA7.1⟩))) (by rw [hYa7.gr.l8]; omega) rfl (fun g8 n8 z8 r8 k8 o8 s8 => ?_)
  have hYb8 := Yd.aa hYa7 (Or.inr (Or.inr ⟨rfl, by omega⟩)) n8 k8 o8 s8
  have f8 := Fr.aa f7 (by unfold FI; omega) n8 z8 k8 s8
  have hA8 := OA.aa hA7 k8
  refine ok_aloadn (pc' := 30) i197_29 rfl rfl <| ok_dup (pc' := 31) i197_30 rfl rfl <| ok_getfi (v := (s 4)) (pc' := 34) i197_31 o197 gi17_100 (hYb8.gr.ky) ((Yd.n4 hYb8)) rfl <| ok_iconst (pc' := 35) i197_34 rfl <| ok_iadd (v := ((s 4) + 1)) (pc' := 36) i197_35 rfl rfl <| ok_putfj (kk := 11) (pc' := 39) i197_36 o197 pi197_100 (hYb8.gr.ky) rfl rfl <| ?_
  have hou : Ou g8 O xr1 := ⟨by have := hY.gr.n; omega, by omega, by omega⟩
  have hno : ∀ j : Int, 0 ≤ j → j < s 4 → A.D j ≠ xr1 := fun j j0 j1 e => by have := (hY.gr.dd j j0 j1).2.1.2.1; omega
  have hYz := Yd.addD (l := x1) (n := x2) (v := x3) (w := x4) hYb8 h4 r8 hou hA8.1 hno (hA8.2 0) (hA8.2 1) (hA8.2 2) (hA8.2 3) (hA8.2 4) (hA8.2 5) (hA8.2 6) (hA8.2 7) (hA8.2 8)
  have fz := frw f8 (by unfold FI; omega) hYz
  have hY8 := hYz
  have hno2 : ordS s x1 x2 x3 x4 4 = s 4 + 1 := upI_eq
  exact K _ (A.1, fun j => if j = s 4 then xr1 else A.D j, A.2.2) _ _ (if_pos rfl) hYz (Fr.w fz (by omega) (by omega)) (by rw [(s8 101 (by decide)).2.2, e1.r0 (by have := hY.gr.n; omega)])
theorem b197 {g : AG} {M : AM} {O : Nat} {A : YA} {s q : Int → Int} {b : Int} {x1 x2 x3 x4 : Int} (hY : Yd g M O A s q) (hV : Val b q s) (hO : 100 + gN g < O) (h4 : s 4 < 16) (hx : 1 ≤ x1 ∧ x1 ≤ 200) (hst : s (542 + x1) = 0) : Ok 1 197 0 [aR 101, aI x1, aI x2, aI x3, aI x4, aU] [] g M (fun o g1 M1 => o = .inl (some (aI (s 4))) ∧ ∃ A1 : YA, Yd g1 M1 O A1 (ordS s x1 x2 x3 x4) q ∧ Fr FI 1 16 g M g1 M1 ∧ gR g1 101 0 = gR g 101 0) := by
  have y4 := V_4 hV
  refine b197_39 hY hV hO h4 (fun a A1 g1 M1 e3 hY1 f1 r1 => ?_)
  rw [← e3]
  obtain ⟨t, ht⟩ : ∃ t : Int → Int, t = ordS s x1 x2 x3 x4 := ⟨_, rfl⟩
  have ht4 : t 4 = s 4 + 1 := by rw [ht]; exact upI_eq
  have hts : t (542 + x1) = 0 := by
    rw [ht]
    unfold ordS
    rw [upI_ne (by omega), upI_ne (by omega), upI_ne (by omega), upI_ne (by omega), upI_ne (by omega), upI_ne (by omega), upI_ne (by omega), upI_ne (by omega), upI_ne (by omega)]
    exact hst
  rw [← ht] at hY1
  rw [← ht]
  obtain ⟨o, ho⟩ : ∃ o : Int, o = s 4 := ⟨_, rfl⟩
  rw [← ho] at ht4 ⊢
  have hli := hY1.li
  refine ok_aloadn (pc' := 40) i197_39 rfl rfl <| ok_getfr (r := 109) (pc' := 43) i197_40 o197 gr17_44 (hY1.gr.ky) (hY1.gr.r6) rfl <| ok_iloadn (pc' := 44) i197_43 rfl rfl <| ok_iaload (v := (t (542 + x1))) (pc' := 45) i197_44 (hY1.gr.k9) (by decide) (hY1.gr.l9) (by omega) ((Yd.st hY1 (i := x1) (by omega) (by omega))) rfl <| ?_
  refine ok_zle (pc1 := 75) (pc2 := 48) i197_45 (by omega) rfl rfl (fun h1 => ?_) (fun h9 => by exfalso; omega)
  refine ok_aload (pc' := 77) i197_75 rfl rfl <| ok_getfi (v := o) (pc' := 80) i197_77 o197 gi17_133 ((hY1.gr.dd o (by omega) (by omega)).2.2) ((hY1.mr.dn o (by omega) (by omega))) rfl <| ok_ireti i197_80 rt197 <| ?_
  exact ⟨rfl, A1, hY1, f1, r1⟩
