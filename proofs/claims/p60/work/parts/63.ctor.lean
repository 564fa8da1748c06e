/-! CONSTRUCTORS (by program, wip/p60/gen) -/
theorem st8_fx {g g1 : AG} {O : Nat} (h : ∀ j : Nat, j < 8 → ShState g (O + 104 + 24 * j)) (e : ∀ c : Nat, O + 104 ≤ c → c < O + 296 → SG g g1 c) : ∀ j : Nat, j < 8 → ShState g1 (O + 104 + 24 * j) := fun j hj => ShState_fx (h j hj) (fun c c0 c1 => e c (by omega) (by omega))
theorem st2_fx {g : AG} {O : Nat} (h0 : ShState g (O + 297)) (h1 : ShState g (O + 321)) : ∀ j : Nat, j < 2 → ShState g (O + 297 + 24 * j) := fun j hj => by
  rcases (show j = 0 ∨ j = 1 by omega) with h | h
  · rw [show O + 297 + 24 * j = O + 297 by omega]; exact h0
  · rw [show O + 297 + 24 * j = O + 321 by omega]; exact h1
theorem nx {g g1 : AG} {a b m : Nat} (h : 100 + gN g = a) (n : gN g1 = gN g + m) (e : a + m = b) : 100 + gN g1 = b := by omega
theorem nx0 {g g1 : AG} {a : Nat} (h : 100 + gN g = a) (n : gN g1 = gN g) : 100 + gN g1 = a := by omega
theorem sx {g g1 g2 : AG} {a b m : Nat} (h : gS g1 = gS g + a) (z : gS g2 = gS g1 + m) (e : a + m = b) : gS g2 = gS g + b := by omega
theorem sx0 {g g1 : AG} (z : gS g1 = gS g) : gS g1 = gS g + 0 := z
theorem nf {g g1 : AG} {B a b m : Nat} (h : 100 + gN g = B + a) (h' : 100 + gN g1 = B + b) (e : a + m = b) : gN g1 = gN g + m := by omega
theorem nb {B i j : Nat} (h : Nat.beq i j = false) : B + i ≠ B + j := fun e => absurd (Nat.add_left_cancel e) (Nat.ne_of_beq_eq_false h)
theorem lb {B i j : Nat} (h : Nat.ble (i + 1) j = true) : B + i < B + j := Nat.add_lt_add_left (Nat.le_of_ble_eq_true h) B
theorem leb {B i j : Nat} (h : Nat.ble i j = true) : B + i ≤ B + j := Nat.add_le_add_left (Nat.le_of_ble_eq_true h) B
theorem lt_2 {j : Nat} (h : j < 2) : j = 0 ∨ j = 1 := by omega
theorem lt_8 {j : Nat} (h : j < 8) : j = 0 ∨ j = 1 ∨ j = 2 ∨ j = 3 ∨ j = 4 ∨ j = 5 ∨ j = 6 ∨ j = 7 := by omega
theorem lt_11 {j : Nat} (h : j < 11) : j = 0 ∨ j = 1 ∨ j = 2 ∨ j = 3 ∨ j = 4 ∨ j = 5 ∨ j = 6 ∨ j = 7 ∨ j = 8 ∨ j = 9 ∨ j = 10 := by omega
theorem lt_16 {j : Nat} (h : j < 16) : j = 0 ∨ j = 1 ∨ j = 2 ∨ j = 3 ∨ j = 4 ∨ j = 5 ∨ j = 6 ∨ j = 7 ∨ j = 8 ∨ j = 9 ∨ j = 10 ∨ j = 11 ∨ j = 12 ∨ j = 13 ∨ j = 14 ∨ j = 15 := by omega
theorem lt_24 {j : Nat} (h : j < 24) : j = 0 ∨ j = 1 ∨ j = 2 ∨ j = 3 ∨ j = 4 ∨ j = 5 ∨ j = 6 ∨ j = 7 ∨ j = 8 ∨ j = 9 ∨ j = 10 ∨ j = 11 ∨ j = 12 ∨ j = 13 ∨ j = 14 ∨ j = 15 ∨ j = 16 ∨ j = 17 ∨ j = 18 ∨ j = 19 ∨ j = 20 ∨ j = 21 ∨ j = 22 ∨ j = 23 := by omega
theorem o14 : am_oc 14 = 5 := by decide +kernel
theorem m5_3 : am_mlk 5 3 5 0 = true := by decide +kernel
theorem pr14_9 : am_pfr 14 5 9 5 1 = true := by decide +kernel
theorem ck5_15 : am_csk 5 15 25 = true := by decide +kernel
theorem pr14_17 : am_pfr 14 5 17 5 3 = true := by decide +kernel
theorem pr14_20 : am_pfr 14 5 20 5 5 = true := by decide +kernel
theorem pr14_23 : am_pfr 14 5 23 5 6 = true := by decide +kernel
theorem pr14_26 : am_pfr 14 5 26 5 8 = true := by decide +kernel
theorem pr14_29 : am_pfr 14 5 29 5 9 = true := by decide +kernel
theorem rt14 : am_rt 14 = none := by decide +kernel
theorem o8 : am_oc 8 = 4 := by decide +kernel
theorem m4_3 : am_mlk 4 3 5 0 = true := by decide +kernel
theorem pr8_9 : am_pfr 8 4 9 4 1 = true := by decide +kernel
theorem pr8_15 : am_pfr 8 4 15 4 2 = true := by decide +kernel
theorem pr8_18 : am_pfr 8 4 18 4 4 = true := by decide +kernel
theorem ck4_21 : am_csk 4 21 25 = true := by decide +kernel
theorem pr8_23 : am_pfr 8 4 23 4 5 = true := by decide +kernel
theorem rt8 : am_rt 8 = none := by decide +kernel
theorem o32 : am_oc 32 = 8 := by decide +kernel
theorem m8_3 : am_mlk 8 3 5 0 = true := by decide +kernel
theorem pr32_9 : am_pfr 32 8 9 8 0 = true := by decide +kernel
theorem pr32_15 : am_pfr 32 8 15 8 1 = true := by decide +kernel
theorem rt32 : am_rt 32 = none := by decide +kernel
theorem o28 : am_oc 28 = 6 := by decide +kernel
theorem m6_3 : am_mlk 6 3 5 0 = true := by decide +kernel
theorem pr28_11 : am_pfr 28 6 11 6 0 = true := by decide +kernel
theorem rt28 : am_rt 28 = none := by decide +kernel
theorem o59 : am_oc 59 = 2 := by decide +kernel
theorem m2_3 : am_mlk 2 3 5 0 = true := by decide +kernel
theorem pr59_9 : am_pfr 59 2 9 2 1 = true := by decide +kernel
theorem pr59_15 : am_pfr 59 2 15 2 0 = true := by decide +kernel
theorem rt59 : am_rt 59 = none := by decide +kernel
theorem o66 : am_oc 66 = 3 := by decide +kernel
theorem m3_3 : am_mlk 3 3 5 0 = true := by decide +kernel
theorem ck3_9 : am_csk 3 9 4 = true := by decide +kernel
theorem m3_11 : am_mlk 3 11 3 8 = true := by decide +kernel
theorem na8 : am_na 8 = 0 := by decide +kernel
theorem nl8 : am_nL 8 = 1 := by decide +kernel
theorem pd8 : ∀ a0 : AV, am_pad 8 [a0] = [a0] := by intros; unfold am_pad; rw [nl8]; rfl
theorem ln8 : 1 ≤ am_nL 8 := by rw [nl8]; decide
theorem pr66_12 : am_pfr 66 3 12 3 1 = true := by decide +kernel
theorem ck3_18 : am_csk 3 18 5 = true := by decide +kernel
theorem m3_20 : am_mlk 3 20 3 14 = true := by decide +kernel
theorem na14 : am_na 14 = 0 := by decide +kernel
theorem nl14 : am_nL 14 = 1 := by decide +kernel
theorem pd14 : ∀ a0 : AV, am_pad 14 [a0] = [a0] := by intros; unfold am_pad; rw [nl14]; rfl
theorem ln14 : 1 ≤ am_nL 14 := by rw [nl14]; decide
theorem pr66_21 : am_pfr 66 3 21 3 2 = true := by decide +kernel
theorem pr66_25 : am_pfr 66 3 25 3 0 = true := by decide +kernel
theorem rt66 : am_rt 66 = none := by decide +kernel
theorem o52 : am_oc 52 = 7 := by decide +kernel
theorem m7_3 : am_mlk 7 3 5 0 = true := by decide +kernel
theorem pr52_9 : am_pfr 52 7 9 7 0 = true := by decide +kernel
theorem pr52_15 : am_pfr 52 7 15 7 1 = true := by decide +kernel
theorem ck7_19 : am_csk 7 19 5 = true := by decide +kernel
theorem m7_21 : am_mlk 7 21 3 14 = true := by decide +kernel
theorem pr52_22 : am_pfr 52 7 22 7 2 = true := by decide +kernel
theorem ck7_25 : am_csk 7 25 8 = true := by decide +kernel
theorem gr7_22 : am_gfr 7 22 7 2 = true := by decide +kernel
theorem m7_27 : am_mlk 7 27 2 32 = true := by decide +kernel
theorem na32 : am_na 32 = 2 := by decide +kernel
theorem nl32 : am_nL 32 = 3 := by decide +kernel
theorem pd32 : ∀ a0 a1 a2 : AV, am_pad 32 [a0, a1, a2] = [a0, a1, a2] := by intros; unfold am_pad; rw [nl32]; rfl
theorem ln32 : 3 ≤ am_nL 32 := by rw [nl32]; decide
theorem pr52_30 : am_pfr 52 7 30 7 3 = true := by decide +kernel
theorem rt52 : am_rt 52 = none := by decide +kernel
theorem o63 : am_oc 63 = 1 := by decide +kernel
theorem m1_3 : am_mlk 1 3 5 0 = true := by decide +kernel
theorem ck1_9 : am_csk 1 9 5 = true := by decide +kernel
theorem pr63_11 : am_pfr 63 1 11 1 0 = true := by decide +kernel
theorem gr1_11 : am_gfr 1 11 1 0 = true := by decide +kernel
theorem m1_17 : am_mlk 1 17 3 14 = true := by decide +kernel
theorem rt63 : am_rt 63 = none := by decide +kernel
theorem o87 : am_oc 87 = 0 := by decide +kernel
theorem m0_3 : am_mlk 0 3 5 0 = true := by decide +kernel
theorem pr87_9 : am_pfr 87 0 9 0 0 = true := by decide +kernel
theorem ck0_13 : am_csk 0 13 3 = true := by decide +kernel
theorem gr0_9 : am_gfr 0 9 0 0 = true := by decide +kernel
theorem m0_15 : am_mlk 0 15 2 66 = true := by decide +kernel
theorem na66 : am_na 66 = 1 := by decide +kernel
theorem nl66 : am_nL 66 = 2 := by decide +kernel
theorem pd66 : ∀ a0 a1 : AV, am_pad 66 [a0, a1] = [a0, a1] := by intros; unfold am_pad; rw [nl66]; rfl
theorem ln66 : 2 ≤ am_nL 66 := by rw [nl66]; decide
theorem pr87_18 : am_pfr 87 0 18 0 2 = true := by decide +kernel
theorem pi87_22 : am_pfi 87 0 22 0 4 = true := by decide +kernel
theorem pi87_26 : am_pfi 87 0 26 0 5 = true := by decide +kernel
theorem ck0_29 : am_csk 0 29 4 = true := by decide +kernel
theorem m0_31 : am_mlk 0 31 3 8 = true := by decide +kernel
theorem pr87_32 : am_pfr 87 0 32 0 7 = true := by decide +kernel
theorem ck0_36 : am_csk 0 36 5 = true := by decide +kernel
theorem m0_38 : am_mlk 0 38 3 14 = true := by decide +kernel
theorem pr87_39 : am_pfr 87 0 39 0 8 = true := by decide +kernel
theorem ck0_43 : am_csk 0 43 8 = true := by decide +kernel
theorem m0_45 : am_mlk 0 45 2 32 = true := by decide +kernel
theorem pr87_48 : am_pfr 87 0 48 0 9 = true := by decide +kernel
theorem ck0_52 : am_csk 0 52 7 = true := by decide +kernel
theorem m0_54 : am_mlk 0 54 2 52 = true := by decide +kernel
theorem na52 : am_na 52 = 2 := by decide +kernel
theorem nl52 : am_nL 52 = 3 := by decide +kernel
theorem pd52 : ∀ a0 a1 a2 : AV, am_pad 52 [a0, a1, a2] = [a0, a1, a2] := by intros; unfold am_pad; rw [nl52]; rfl
theorem ln52 : 3 ≤ am_nL 52 := by rw [nl52]; decide
theorem pr87_55 : am_pfr 87 0 55 0 10 = true := by decide +kernel
theorem ck0_59 : am_csk 0 59 2 = true := by decide +kernel
theorem m0_61 : am_mlk 0 61 2 59 = true := by decide +kernel
theorem na59 : am_na 59 = 1 := by decide +kernel
theorem nl59 : am_nL 59 = 2 := by decide +kernel
theorem pd59 : ∀ a0 a1 : AV, am_pad 59 [a0, a1] = [a0, a1] := by intros; unfold am_pad; rw [nl59]; rfl
theorem ln59 : 2 ≤ am_nL 59 := by rw [nl59]; decide
theorem pr87_64 : am_pfr 87 0 64 0 11 = true := by decide +kernel
theorem ck0_68 : am_csk 0 68 1 = true := by decide +kernel
theorem m0_70 : am_mlk 0 70 2 63 = true := by decide +kernel
theorem na63 : am_na 63 = 0 := by decide +kernel
theorem nl63 : am_nL 63 = 2 := by decide +kernel
theorem pd63 : ∀ a0 : AV, am_pad 63 [a0] = [a0, aU] := by intros; unfold am_pad; rw [nl63]; rfl
theorem ln63 : 1 ≤ am_nL 63 := by rw [nl63]; decide
theorem pr87_71 : am_pfr 87 0 71 0 12 = true := by decide +kernel
theorem pr87_75 : am_pfr 87 0 75 0 13 = true := by decide +kernel
theorem gr0_75 : am_gfr 0 75 0 13 = true := by decide +kernel
theorem pr87_79 : am_pfr 87 0 79 0 14 = true := by decide +kernel
theorem ck0_83 : am_csk 0 83 6 = true := by decide +kernel
theorem m0_85 : am_mlk 0 85 3 28 = true := by decide +kernel
theorem na28 : am_na 28 = 0 := by decide +kernel
theorem nl28 : am_nL 28 = 1 := by decide +kernel
theorem pd28 : ∀ a0 : AV, am_pad 28 [a0] = [a0] := by intros; unfold am_pad; rw [nl28]; rfl
theorem ln28 : 1 ≤ am_nL 28 := by rw [nl28]; decide
theorem pr87_86 : am_pfr 87 0 86 0 15 = true := by decide +kernel
theorem rt87 : am_rt 87 = none := by decide +kernel
theorem zs14 {B : Nat} {c : Nat} (c0 : B ≤ c) (c1 : c ≤ (B + 23)) : (c = B) ∨ (c = (B + 1)) ∨ ((B + 2) ≤ c ∧ c ≤ (B + 7)) ∨ ((B + 8) ≤ c ∧ c ≤ (B + 16)) ∨ (c = (B + 17)) ∨ ((B + 18) ≤ c ∧ c ≤ (B + 22)) ∨ (c = (B + 23)) := (Nat.lt_or_ge c (B + 1)).elim (fun h0 => Or.inl (Nat.le_antisymm (Nat.le_of_lt_succ h0) c0)) (fun h0 => Or.inr ((Nat.lt_or_ge c (B + 2)).elim (fun h1 => Or.inl (Nat.le_antisymm (Nat.le_of_lt_succ h1) h0)) (fun h1 => Or.inr ((Nat.lt_or_ge c (B + 8)).elim (fun h2 => Or.inl (⟨h1, Nat.le_of_lt_succ h2⟩)) (fun h2 => Or.inr ((Nat.lt_or_ge c (B + 17)).elim (fun h3 => Or.inl (⟨h2, Nat.le_of_lt_succ h3⟩)) (fun h3 => Or.inr ((Nat.lt_or_ge c (B + 18)).elim (fun h4 => Or.inl (Nat.le_antisymm (Nat.le_of_lt_succ h4) h3)) (fun h4 => Or.inr ((Nat.lt_or_ge c (B + 23)).elim (fun h5 => Or.inl (⟨h4, Nat.le_of_lt_succ h5⟩)) (fun h5 => Or.inr (Nat.le_antisymm c1 h5))))))))))))
set_option maxHeartbeats 8000000 in
theorem t14 {g : AG} {M : AM} {B : Nat} (hN : 100 + gN g = (B + 1)) (hK : gK g B = 5) (hL0 : gL g B = 0) (hM : ∀ i : Int, M B i = 0) :
    Ok 0 14 0 [aR B] [] g M (fun o g9 M9 => o = .inl none ∧ gN g9 = gN g + 23 ∧ gS g9 = gS g + 996 ∧ ShState g9 B ∧ (∀ c : Nat, c < B → SG g g9 c) ∧ (∀ c : Nat, c < B → M9 c = M c) ∧ ∀ c : Nat, B ≤ c → c ≤ (B + 23) → ∀ i : Int, M9 c i = 0) := by
  refine ok_aloadn (pc' := 1) i14_0 rfl rfl <| ok_objinit (pc' := 4) i14_1 o14 m5_3 (by rw [hK]; decide) (bt rfl) rfl <| ok_aloadn (pc' := 5) i14_4 rfl rfl <| ok_iconst (pc' := 6) i14_5 rfl <| ?_
  refine ok_newarrF (r := (B + 1)) (ln := 2) (kd := 20) (pc' := 8) i14_6 rfl (by decide) rfl (by decide) hN rfl (fun g1 M1 n1 z1 k1 s1 m1 q1 => ?_)
  have a1 : 100 + gN g1 = (B + 2) := nx hN n1 rfl
  have b1 : gS g1 = gS g + 2 := sx rfl z1 rfl
  refine ok_putrF (pc' := 11) i14_8 o14 pr14_9 (Eq.trans (s1 B (nb (B := B) (i := 0) (j := 1) rfl)).1 hK) rfl (fun g2 n2 z2 r2 e2 o2 s2 => ?_)
  have a2 := nx0 a1 n2
  have b2 := z2.trans b1
  refine ok_aloadn (pc' := 12) i14_11 rfl rfl <| ok_iconst (pc' := 13) i14_12 rfl <| ok_bipush (v := 80) (pc' := 15) i14_13 rfl rfl <| ?_
  refine ok_multiF (r := (B + 2)) (n := 5) (w := 80) (pc' := 19) i14_15 o14 ck5_15 rfl (by decide) rfl (by decide) a2 rfl (fun g3 M3 n3 z3 k3 ki3 mr3 s3 m3 q3 => ?_)
  have a3 : 100 + gN g3 = (B + 8) := nx a2 n3 rfl
  have b3 : gS g3 = gS g + 407 := sx b2 z3 rfl
  refine ok_putrF (pc' := 22) i14_19 o14 pr14_17 (Eq.trans (s3 B (lb (B := B) (i := 0) (j := 2) rfl)).1 (Eq.trans (congrFun e2.1 B) (Eq.trans (s1 B (nb (B := B) (i := 0) (j := 1) rfl)).1 hK))) rfl (fun g4 n4 z4 r4 e4 o4 s4 => ?_)
  have a4 := nx0 a3 n4
  have b4 := z4.trans b3
  refine ok_aloadn (pc' := 23) i14_22 rfl rfl <| ok_bipush (v := 8) (pc' := 25) i14_23 rfl rfl <| ok_bipush (v := 16) (pc' := 27) i14_25 rfl rfl <| ?_
  refine ok_multiF (r := (B + 8)) (n := 8) (w := 16) (pc' := 31) i14_27 o14 ck5_15 rfl (by decide) rfl (by decide) a4 rfl (fun g5 M5 n5 z5 k5 ki5 mr5 s5 m5 q5 => ?_)
  have a5 : 100 + gN g5 = (B + 17) := nx a4 n5 rfl
  have b5 : gS g5 = gS g + 543 := sx b4 z5 rfl
  refine ok_putrF (pc' := 34) i14_31 o14 pr14_20 (Eq.trans (s5 B (lb (B := B) (i := 0) (j := 8) rfl)).1 (Eq.trans (congrFun e4.1 B) (Eq.trans (s3 B (lb (B := B) (i := 0) (j := 2) rfl)).1 (Eq.trans (congrFun e2.1 B) (Eq.trans (s1 B (nb (B := B) (i := 0) (j := 1) rfl)).1 hK))))) rfl (fun g6 n6 z6 r6 e6 o6 s6 => ?_)
  have a6 := nx0 a5 n6
  have b6 := z6.trans b5
  refine ok_aloadn (pc' := 35) i14_34 rfl rfl <| ok_sipush (v := 201) (pc' := 38) i14_35 rfl rfl <| ?_
  refine ok_newarrF (r := (B + 17)) (ln := 201) (kd := 20) (pc' := 40) i14_38 rfl (by decide) rfl (by decide) a6 rfl (fun g7 M7 n7 z7 k7 s7 m7 q7 => ?_)
  have a7 : 100 + gN g7 = (B + 18) := nx a6 n7 rfl
  have b7 : gS g7 = gS g + 744 := sx b6 z7 rfl
  refine ok_putrF (pc' := 43) i14_40 o14 pr14_23 (Eq.trans (s7 B (nb (B := B) (i := 0) (j := 17) rfl)).1 (Eq.trans (congrFun e6.1 B) (Eq.trans (s5 B (lb (B := B) (i := 0) (j := 8) rfl)).1 (Eq.trans (congrFun e4.1 B) (Eq.trans (s3 B (lb (B := B) (i := 0) (j := 2) rfl)).1 (Eq.trans (congrFun e2.1 B) (Eq.trans (s1 B (nb (B := B) (i := 0) (j := 1) rfl)).1 hK))))))) rfl (fun g8 n8 z8 r8 e8 o8 s8 => ?_)
  have a8 := nx0 a7 n8
  have b8 := z8.trans b7
  refine ok_aloadn (pc' := 44) i14_43 rfl rfl <| ok_iconst (pc' := 45) i14_44 rfl <| ok_bipush (v := 60) (pc' := 47) i14_45 rfl rfl <| ?_
  refine ok_multiF (r := (B + 18)) (n := 4) (w := 60) (pc' := 51) i14_47 o14 ck5_15 rfl (by decide) rfl (by decide) a8 rfl (fun g9 M9 n9 z9 k9 ki9 mr9 s9 m9 q9 => ?_)
  have a9 : 100 + gN g9 = (B + 23) := nx a8 n9 rfl
  have b9 : gS g9 = gS g + 988 := sx b8 z9 rfl
  refine ok_putrF (pc' := 54) i14_51 o14 pr14_26 (Eq.trans (s9 B (lb (B := B) (i := 0) (j := 18) rfl)).1 (Eq.trans (congrFun e8.1 B) (Eq.trans (s7 B (nb (B := B) (i := 0) (j := 17) rfl)).1 (Eq.trans (congrFun e6.1 B) (Eq.trans (s5 B (lb (B := B) (i := 0) (j := 8) rfl)).1 (Eq.trans (congrFun e4.1 B) (Eq.trans (s3 B (lb (B := B) (i := 0) (j := 2) rfl)).1 (Eq.trans (congrFun e2.1 B) (Eq.trans (s1 B (nb (B := B) (i := 0) (j := 1) rfl)).1 hK))))))))) rfl (fun g10 n10 z10 r10 e10 o10 s10 => ?_)
  have a10 := nx0 a9 n10
  have b10 := z10.trans b9
  refine ok_aloadn (pc' := 55) i14_54 rfl rfl <| ok_bipush (v := 8) (pc' := 57) i14_55 rfl rfl <| ?_
  refine ok_newarrF (r := (B + 23)) (ln := 8) (kd := 20) (pc' := 59) i14_57 rfl (by decide) rfl (by decide) a10 rfl (fun g11 M11 n11 z11 k11 s11 m11 q11 => ?_)
  have a11 : 100 + gN g11 = (B + 24) := nx a10 n11 rfl
  have b11 : gS g11 = gS g + 996 := sx b10 z11 rfl
  refine ok_putrF (pc' := 62) i14_59 o14 pr14_29 (Eq.trans (s11 B (nb (B := B) (i := 0) (j := 23) rfl)).1 (Eq.trans (congrFun e10.1 B) (Eq.trans (s9 B (lb (B := B) (i := 0) (j := 18) rfl)).1 (Eq.trans (congrFun e8.1 B) (Eq.trans (s7 B (nb (B := B) (i := 0) (j := 17) rfl)).1 (Eq.trans (congrFun e6.1 B) (Eq.trans (s5 B (lb (B := B) (i := 0) (j := 8) rfl)).1 (Eq.trans (congrFun e4.1 B) (Eq.trans (s3 B (lb (B := B) (i := 0) (j := 2) rfl)).1 (Eq.trans (congrFun e2.1 B) (Eq.trans (s1 B (nb (B := B) (i := 0) (j := 1) rfl)).1 hK))))))))))) rfl (fun g12 n12 z12 r12 e12 o12 s12 => ?_)
  have a12 := nx0 a11 n12
  have b12 := z12.trans b11
  refine ok_vret i14_62 rt14 <| ?_
  have u_0 : ∀ c : Nat, (B + 1) ≤ c → c ≤ (B + 1) → SG g1 g12 c := fun c c0 c1 => (SG.trans (SG.trans (SG.trans (SG.trans (SG.trans (SG.trans (SG.trans (SG.trans (SG.trans (SG.trans (s2 c (Nat.ne_of_gt (Nat.lt_of_lt_of_le (lb (B := B) (i := 0) (j := 1) rfl) c0))) (s3 c (Nat.lt_of_le_of_lt c1 (lb (B := B) (i := 1) (j := 2) rfl)))) (s4 c (Nat.ne_of_gt (Nat.lt_of_lt_of_le (lb (B := B) (i := 0) (j := 1) rfl) c0)))) (s5 c (Nat.lt_of_le_of_lt c1 (lb (B := B) (i := 1) (j := 8) rfl)))) (s6 c (Nat.ne_of_gt (Nat.lt_of_lt_of_le (lb (B := B) (i := 0) (j := 1) rfl) c0)))) (s7 c (Nat.ne_of_lt (Nat.lt_of_le_of_lt c1 (lb (B := B) (i := 1) (j := 17) rfl))))) (s8 c (Nat.ne_of_gt (Nat.lt_of_lt_of_le (lb (B := B) (i := 0) (j := 1) rfl) c0)))) (s9 c (Nat.lt_of_le_of_lt c1 (lb (B := B) (i := 1) (j := 18) rfl)))) (s10 c (Nat.ne_of_gt (Nat.lt_of_lt_of_le (lb (B := B) (i := 0) (j := 1) rfl) c0)))) (s11 c (Nat.ne_of_lt (Nat.lt_of_le_of_lt c1 (lb (B := B) (i := 1) (j := 23) rfl))))) (s12 c (Nat.ne_of_gt (Nat.lt_of_lt_of_le (lb (B := B) (i := 0) (j := 1) rfl) c0))))
  have u_2 : ∀ c : Nat, (B + 2) ≤ c → c ≤ (B + 7) → SG g3 g12 c := fun c c0 c1 => (SG.trans (SG.trans (SG.trans (SG.trans (SG.trans (SG.trans (SG.trans (SG.trans (s4 c (Nat.ne_of_gt (Nat.lt_of_lt_of_le (lb (B := B) (i := 0) (j := 2) rfl) c0))) (s5 c (Nat.lt_of_le_of_lt c1 (lb (B := B) (i := 7) (j := 8) rfl)))) (s6 c (Nat.ne_of_gt (Nat.lt_of_lt_of_le (lb (B := B) (i := 0) (j := 2) rfl) c0)))) (s7 c (Nat.ne_of_lt (Nat.lt_of_le_of_lt c1 (lb (B := B) (i := 7) (j := 17) rfl))))) (s8 c (Nat.ne_of_gt (Nat.lt_of_lt_of_le (lb (B := B) (i := 0) (j := 2) rfl) c0)))) (s9 c (Nat.lt_of_le_of_lt c1 (lb (B := B) (i := 7) (j := 18) rfl)))) (s10 c (Nat.ne_of_gt (Nat.lt_of_lt_of_le (lb (B := B) (i := 0) (j := 2) rfl) c0)))) (s11 c (Nat.ne_of_lt (Nat.lt_of_le_of_lt c1 (lb (B := B) (i := 7) (j := 23) rfl))))) (s12 c (Nat.ne_of_gt (Nat.lt_of_lt_of_le (lb (B := B) (i := 0) (j := 2) rfl) c0))))
  have u_4 : ∀ c : Nat, (B + 8) ≤ c → c ≤ (B + 16) → SG g5 g12 c := fun c c0 c1 => (SG.trans (SG.trans (SG.trans (SG.trans (SG.trans (SG.trans (s6 c (Nat.ne_of_gt (Nat.lt_of_lt_of_le (lb (B := B) (i := 0) (j := 8) rfl) c0))) (s7 c (Nat.ne_of_lt (Nat.lt_of_le_of_lt c1 (lb (B := B) (i := 16) (j := 17) rfl))))) (s8 c (Nat.ne_of_gt (Nat.lt_of_lt_of_le (lb (B := B) (i := 0) (j := 8) rfl) c0)))) (s9 c (Nat.lt_of_le_of_lt c1 (lb (B := B) (i := 16) (j := 18) rfl)))) (s10 c (Nat.ne_of_gt (Nat.lt_of_lt_of_le (lb (B := B) (i := 0) (j := 8) rfl) c0)))) (s11 c (Nat.ne_of_lt (Nat.lt_of_le_of_lt c1 (lb (B := B) (i := 16) (j := 23) rfl))))) (s12 c (Nat.ne_of_gt (Nat.lt_of_lt_of_le (lb (B := B) (i := 0) (j := 8) rfl) c0))))
  have u_6 : ∀ c : Nat, (B + 17) ≤ c → c ≤ (B + 17) → SG g7 g12 c := fun c c0 c1 => (SG.trans (SG.trans (SG.trans (SG.trans (s8 c (Nat.ne_of_gt (Nat.lt_of_lt_of_le (lb (B := B) (i := 0) (j := 17) rfl) c0))) (s9 c (Nat.lt_of_le_of_lt c1 (lb (B := B) (i := 17) (j := 18) rfl)))) (s10 c (Nat.ne_of_gt (Nat.lt_of_lt_of_le (lb (B := B) (i := 0) (j := 17) rfl) c0)))) (s11 c (Nat.ne_of_lt (Nat.lt_of_le_of_lt c1 (lb (B := B) (i := 17) (j := 23) rfl))))) (s12 c (Nat.ne_of_gt (Nat.lt_of_lt_of_le (lb (B := B) (i := 0) (j := 17) rfl) c0))))
  have u_8 : ∀ c : Nat, (B + 18) ≤ c → c ≤ (B + 22) → SG g9 g12 c := fun c c0 c1 => (SG.trans (SG.trans (s10 c (Nat.ne_of_gt (Nat.lt_of_lt_of_le (lb (B := B) (i := 0) (j := 18) rfl) c0))) (s11 c (Nat.ne_of_lt (Nat.lt_of_le_of_lt c1 (lb (B := B) (i := 22) (j := 23) rfl))))) (s12 c (Nat.ne_of_gt (Nat.lt_of_lt_of_le (lb (B := B) (i := 0) (j := 18) rfl) c0))))
  have u_10 : ∀ c : Nat, (B + 23) ≤ c → c ≤ (B + 23) → SG g11 g12 c := fun c c0 c1 => (s12 c (Nat.ne_of_gt (Nat.lt_of_lt_of_le (lb (B := B) (i := 0) (j := 23) rfl) c0)))
  refine ⟨rfl, nf hN a12 rfl, b12, ?_, fun c hc => (SG.trans (SG.trans (SG.trans (SG.trans (SG.trans (SG.trans (SG.trans (SG.trans (SG.trans (SG.trans (SG.trans (s1 c (Nat.ne_of_lt (Nat.lt_of_lt_of_le hc (leb (B := B) (i := 0) (j := 1) rfl)))) (s2 c (Nat.ne_of_lt (Nat.lt_of_lt_of_le hc (leb (B := B) (i := 0) (j := 0) rfl))))) (s3 c (Nat.lt_of_lt_of_le hc (leb (B := B) (i := 0) (j := 2) rfl)))) (s4 c (Nat.ne_of_lt (Nat.lt_of_lt_of_le hc (leb (B := B) (i := 0) (j := 0) rfl))))) (s5 c (Nat.lt_of_lt_of_le hc (leb (B := B) (i := 0) (j := 8) rfl)))) (s6 c (Nat.ne_of_lt (Nat.lt_of_lt_of_le hc (leb (B := B) (i := 0) (j := 0) rfl))))) (s7 c (Nat.ne_of_lt (Nat.lt_of_lt_of_le hc (leb (B := B) (i := 0) (j := 17) rfl))))) (s8 c (Nat.ne_of_lt (Nat.lt_of_lt_of_le hc (leb (B := B) (i := 0) (j := 0) rfl))))) (s9 c (Nat.lt_of_lt_of_le hc (leb (B := B) (i := 0) (j := 18) rfl)))) (s10 c (Nat.ne_of_lt (Nat.lt_of_lt_of_le hc (leb (B := B) (i := 0) (j := 0) rfl))))) (s11 c (Nat.ne_of_lt (Nat.lt_of_lt_of_le hc (leb (B := B) (i := 0) (j := 23) rfl))))) (s12 c (Nat.ne_of_lt (Nat.lt_of_lt_of_le hc (leb (B := B) (i := 0) (j := 0) rfl))))), fun c hc => by rw [q11 c (Nat.ne_of_lt (Nat.lt_of_lt_of_le hc (leb (B := B) (i := 0) (j := 23) rfl))), q9 c (Nat.lt_of_lt_of_le hc (leb (B := B) (i := 0) (j := 18) rfl)), q7 c (Nat.ne_of_lt (Nat.lt_of_lt_of_le hc (leb (B := B) (i := 0) (j := 17) rfl))), q5 c (Nat.lt_of_lt_of_le hc (leb (B := B) (i := 0) (j := 8) rfl)), q3 c (Nat.lt_of_lt_of_le hc (leb (B := B) (i := 0) (j := 2) rfl)), q1 c (Nat.ne_of_lt (Nat.lt_of_lt_of_le hc (leb (B := B) (i := 0) (j := 1) rfl)))], fun c c0 c1 i => ?_⟩
  · refine ⟨?_, (Eq.trans (o12 1 (by decide)) (Eq.trans (congrFun (s11 B (nb (B := B) (i := 0) (j := 23) rfl)).2.2 1) (Eq.trans (o10 1 (by decide)) (Eq.trans (congrFun (s9 B (lb (B := B) (i := 0) (j := 18) rfl)).2.2 1) (Eq.trans (o8 1 (by decide)) (Eq.trans (congrFun (s7 B (nb (B := B) (i := 0) (j := 17) rfl)).2.2 1) (Eq.trans (o6 1 (by decide)) (Eq.trans (congrFun (s5 B (lb (B := B) (i := 0) (j := 8) rfl)).2.2 1) (Eq.trans (o4 1 (by decide)) (Eq.trans (congrFun (s3 B (lb (B := B) (i := 0) (j := 2) rfl)).2.2 1) r2)))))))))), (Eq.trans (o12 3 (by decide)) (Eq.trans (congrFun (s11 B (nb (B := B) (i := 0) (j := 23) rfl)).2.2 3) (Eq.trans (o10 3 (by decide)) (Eq.trans (congrFun (s9 B (lb (B := B) (i := 0) (j := 18) rfl)).2.2 3) (Eq.trans (o8 3 (by decide)) (Eq.trans (congrFun (s7 B (nb (B := B) (i := 0) (j := 17) rfl)).2.2 3) (Eq.trans (o6 3 (by decide)) (Eq.trans (congrFun (s5 B (lb (B := B) (i := 0) (j := 8) rfl)).2.2 3) r4)))))))), (Eq.trans (o12 5 (by decide)) (Eq.trans (congrFun (s11 B (nb (B := B) (i := 0) (j := 23) rfl)).2.2 5) (Eq.trans (o10 5 (by decide)) (Eq.trans (congrFun (s9 B (lb (B := B) (i := 0) (j := 18) rfl)).2.2 5) (Eq.trans (o8 5 (by decide)) (Eq.trans (congrFun (s7 B (nb (B := B) (i := 0) (j := 17) rfl)).2.2 5) r6)))))), (Eq.trans (o12 6 (by decide)) (Eq.trans (congrFun (s11 B (nb (B := B) (i := 0) (j := 23) rfl)).2.2 6) (Eq.trans (o10 6 (by decide)) (Eq.trans (congrFun (s9 B (lb (B := B) (i := 0) (j := 18) rfl)).2.2 6) r8)))), (Eq.trans (o12 8 (by decide)) (Eq.trans (congrFun (s11 B (nb (B := B) (i := 0) (j := 23) rfl)).2.2 8) r10)), r12, ?_, ?_, ?_⟩
    · intro j hj
      rcases lt_24 hj with rfl | rfl | rfl | rfl | rfl | rfl | rfl | rfl | rfl | rfl | rfl | rfl | rfl | rfl | rfl | rfl | rfl | rfl | rfl | rfl | rfl | rfl | rfl | rfl
      · exact ⟨(Eq.trans (congrFun e12.1 B) (Eq.trans (s11 B (nb (B := B) (i := 0) (j := 23) rfl)).1 (Eq.trans (congrFun e10.1 B) (Eq.trans (s9 B (lb (B := B) (i := 0) (j := 18) rfl)).1 (Eq.trans (congrFun e8.1 B) (Eq.trans (s7 B (nb (B := B) (i := 0) (j := 17) rfl)).1 (Eq.trans (congrFun e6.1 B) (Eq.trans (s5 B (lb (B := B) (i := 0) (j := 8) rfl)).1 (Eq.trans (congrFun e4.1 B) (Eq.trans (s3 B (lb (B := B) (i := 0) (j := 2) rfl)).1 (Eq.trans (congrFun e2.1 B) (Eq.trans (s1 B (nb (B := B) (i := 0) (j := 1) rfl)).1 hK)))))))))))), (Eq.trans (congrFun e12.2 B) (Eq.trans (s11 B (nb (B := B) (i := 0) (j := 23) rfl)).2.1 (Eq.trans (congrFun e10.2 B) (Eq.trans (s9 B (lb (B := B) (i := 0) (j := 18) rfl)).2.1 (Eq.trans (congrFun e8.2 B) (Eq.trans (s7 B (nb (B := B) (i := 0) (j := 17) rfl)).2.1 (Eq.trans (congrFun e6.2 B) (Eq.trans (s5 B (lb (B := B) (i := 0) (j := 8) rfl)).2.1 (Eq.trans (congrFun e4.2 B) (Eq.trans (s3 B (lb (B := B) (i := 0) (j := 2) rfl)).2.1 (Eq.trans (congrFun e2.2 B) (Eq.trans (s1 B (nb (B := B) (i := 0) (j := 1) rfl)).2.1 hL0))))))))))))⟩
      · exact ⟨((u_0 (B + 1) (leb (B := B) (i := 1) (j := 1) rfl) (leb (B := B) (i := 1) (j := 1) rfl)).1.trans k1.1), ((u_0 (B + 1) (leb (B := B) (i := 1) (j := 1) rfl) (leb (B := B) (i := 1) (j := 1) rfl)).2.1.trans k1.2)⟩
      · exact ⟨((u_2 (B + 2) (leb (B := B) (i := 2) (j := 2) rfl) (leb (B := B) (i := 2) (j := 7) rfl)).1.trans k3.1), ((u_2 (B + 2) (leb (B := B) (i := 2) (j := 2) rfl) (leb (B := B) (i := 2) (j := 7) rfl)).2.1.trans k3.2)⟩
      · exact ⟨((u_2 (B + 3) (leb (B := B) (i := 2) (j := 3) rfl) (leb (B := B) (i := 3) (j := 7) rfl)).1.trans (ki3 (B + 3) (lb (B := B) (i := 2) (j := 3) rfl) (leb (B := B) (i := 3) (j := 7) rfl)).1), ((u_2 (B + 3) (leb (B := B) (i := 2) (j := 3) rfl) (leb (B := B) (i := 3) (j := 7) rfl)).2.1.trans (ki3 (B + 3) (lb (B := B) (i := 2) (j := 3) rfl) (leb (B := B) (i := 3) (j := 7) rfl)).2)⟩
      · exact ⟨((u_2 (B + 4) (leb (B := B) (i := 2) (j := 4) rfl) (leb (B := B) (i := 4) (j := 7) rfl)).1.trans (ki3 (B + 4) (lb (B := B) (i := 2) (j := 4) rfl) (leb (B := B) (i := 4) (j := 7) rfl)).1), ((u_2 (B + 4) (leb (B := B) (i := 2) (j := 4) rfl) (leb (B := B) (i := 4) (j := 7) rfl)).2.1.trans (ki3 (B + 4) (lb (B := B) (i := 2) (j := 4) rfl) (leb (B := B) (i := 4) (j := 7) rfl)).2)⟩
      · exact ⟨((u_2 (B + 5) (leb (B := B) (i := 2) (j := 5) rfl) (leb (B := B) (i := 5) (j := 7) rfl)).1.trans (ki3 (B + 5) (lb (B := B) (i := 2) (j := 5) rfl) (leb (B := B) (i := 5) (j := 7) rfl)).1), ((u_2 (B + 5) (leb (B := B) (i := 2) (j := 5) rfl) (leb (B := B) (i := 5) (j := 7) rfl)).2.1.trans (ki3 (B + 5) (lb (B := B) (i := 2) (j := 5) rfl) (leb (B := B) (i := 5) (j := 7) rfl)).2)⟩
      · exact ⟨((u_2 (B + 6) (leb (B := B) (i := 2) (j := 6) rfl) (leb (B := B) (i := 6) (j := 7) rfl)).1.trans (ki3 (B + 6) (lb (B := B) (i := 2) (j := 6) rfl) (leb (B := B) (i := 6) (j := 7) rfl)).1), ((u_2 (B + 6) (leb (B := B) (i := 2) (j := 6) rfl) (leb (B := B) (i := 6) (j := 7) rfl)).2.1.trans (ki3 (B + 6) (lb (B := B) (i := 2) (j := 6) rfl) (leb (B := B) (i := 6) (j := 7) rfl)).2)⟩
      · exact ⟨((u_2 (B + 7) (leb (B := B) (i := 2) (j := 7) rfl) (leb (B := B) (i := 7) (j := 7) rfl)).1.trans (ki3 (B + 7) (lb (B := B) (i := 2) (j := 7) rfl) (leb (B := B) (i := 7) (j := 7) rfl)).1), ((u_2 (B + 7) (leb (B := B) (i := 2) (j := 7) rfl) (leb (B := B) (i := 7) (j := 7) rfl)).2.1.trans (ki3 (B + 7) (lb (B := B) (i := 2) (j := 7) rfl) (leb (B := B) (i := 7) (j := 7) rfl)).2)⟩
      · exact ⟨((u_4 (B + 8) (leb (B := B) (i := 8) (j := 8) rfl) (leb (B := B) (i := 8) (j := 16) rfl)).1.trans k5.1), ((u_4 (B + 8) (leb (B := B) (i := 8) (j := 8) rfl) (leb (B := B) (i := 8) (j := 16) rfl)).2.1.trans k5.2)⟩
      · exact ⟨((u_4 (B + 9) (leb (B := B) (i := 8) (j := 9) rfl) (leb (B := B) (i := 9) (j := 16) rfl)).1.trans (ki5 (B + 9) (lb (B := B) (i := 8) (j := 9) rfl) (leb (B := B) (i := 9) (j := 16) rfl)).1), ((u_4 (B + 9) (leb (B := B) (i := 8) (j := 9) rfl) (leb (B := B) (i := 9) (j := 16) rfl)).2.1.trans (ki5 (B + 9) (lb (B := B) (i := 8) (j := 9) rfl) (leb (B := B) (i := 9) (j := 16) rfl)).2)⟩
      · exact ⟨((u_4 (B + 10) (leb (B := B) (i := 8) (j := 10) rfl) (leb (B := B) (i := 10) (j := 16) rfl)).1.trans (ki5 (B + 10) (lb (B := B) (i := 8) (j := 10) rfl) (leb (B := B) (i := 10) (j := 16) rfl)).1), ((u_4 (B + 10) (leb (B := B) (i := 8) (j := 10) rfl) (leb (B := B) (i := 10) (j := 16) rfl)).2.1.trans (ki5 (B + 10) (lb (B := B) (i := 8) (j := 10) rfl) (leb (B := B) (i := 10) (j := 16) rfl)).2)⟩
      · exact ⟨((u_4 (B + 11) (leb (B := B) (i := 8) (j := 11) rfl) (leb (B := B) (i := 11) (j := 16) rfl)).1.trans (ki5 (B + 11) (lb (B := B) (i := 8) (j := 11) rfl) (leb (B := B) (i := 11) (j := 16) rfl)).1), ((u_4 (B + 11) (leb (B := B) (i := 8) (j := 11) rfl) (leb (B := B) (i := 11) (j := 16) rfl)).2.1.trans (ki5 (B + 11) (lb (B := B) (i := 8) (j := 11) rfl) (leb (B := B) (i := 11) (j := 16) rfl)).2)⟩
      · exact ⟨((u_4 (B + 12) (leb (B := B) (i := 8) (j := 12) rfl) (leb (B := B) (i := 12) (j := 16) rfl)).1.trans (ki5 (B + 12) (lb (B := B) (i := 8) (j := 12) rfl) (leb (B := B) (i := 12) (j := 16) rfl)).1), ((u_4 (B + 12) (leb (B := B) (i := 8) (j := 12) rfl) (leb (B := B) (i := 12) (j := 16) rfl)).2.1.trans (ki5 (B + 12) (lb (B := B) (i := 8) (j := 12) rfl) (leb (B := B) (i := 12) (j := 16) rfl)).2)⟩
      · exact ⟨((u_4 (B + 13) (leb (B := B) (i := 8) (j := 13) rfl) (leb (B := B) (i := 13) (j := 16) rfl)).1.trans (ki5 (B + 13) (lb (B := B) (i := 8) (j := 13) rfl) (leb (B := B) (i := 13) (j := 16) rfl)).1), ((u_4 (B + 13) (leb (B := B) (i := 8) (j := 13) rfl) (leb (B := B) (i := 13) (j := 16) rfl)).2.1.trans (ki5 (B + 13) (lb (B := B) (i := 8) (j := 13) rfl) (leb (B := B) (i := 13) (j := 16) rfl)).2)⟩
      · exact ⟨((u_4 (B + 14) (leb (B := B) (i := 8) (j := 14) rfl) (leb (B := B) (i := 14) (j := 16) rfl)).1.trans (ki5 (B + 14) (lb (B := B) (i := 8) (j := 14) rfl) (leb (B := B) (i := 14) (j := 16) rfl)).1), ((u_4 (B + 14) (leb (B := B) (i := 8) (j := 14) rfl) (leb (B := B) (i := 14) (j := 16) rfl)).2.1.trans (ki5 (B + 14) (lb (B := B) (i := 8) (j := 14) rfl) (leb (B := B) (i := 14) (j := 16) rfl)).2)⟩
      · exact ⟨((u_4 (B + 15) (leb (B := B) (i := 8) (j := 15) rfl) (leb (B := B) (i := 15) (j := 16) rfl)).1.trans (ki5 (B + 15) (lb (B := B) (i := 8) (j := 15) rfl) (leb (B := B) (i := 15) (j := 16) rfl)).1), ((u_4 (B + 15) (leb (B := B) (i := 8) (j := 15) rfl) (leb (B := B) (i := 15) (j := 16) rfl)).2.1.trans (ki5 (B + 15) (lb (B := B) (i := 8) (j := 15) rfl) (leb (B := B) (i := 15) (j := 16) rfl)).2)⟩
      · exact ⟨((u_4 (B + 16) (leb (B := B) (i := 8) (j := 16) rfl) (leb (B := B) (i := 16) (j := 16) rfl)).1.trans (ki5 (B + 16) (lb (B := B) (i := 8) (j := 16) rfl) (leb (B := B) (i := 16) (j := 16) rfl)).1), ((u_4 (B + 16) (leb (B := B) (i := 8) (j := 16) rfl) (leb (B := B) (i := 16) (j := 16) rfl)).2.1.trans (ki5 (B + 16) (lb (B := B) (i := 8) (j := 16) rfl) (leb (B := B) (i := 16) (j := 16) rfl)).2)⟩
      · exact ⟨((u_6 (B + 17) (leb (B := B) (i := 17) (j := 17) rfl) (leb (B := B) (i := 17) (j := 17) rfl)).1.trans k7.1), ((u_6 (B + 17) (leb (B := B) (i := 17) (j := 17) rfl) (leb (B := B) (i := 17) (j := 17) rfl)).2.1.trans k7.2)⟩
      · exact ⟨((u_8 (B + 18) (leb (B := B) (i := 18) (j := 18) rfl) (leb (B := B) (i := 18) (j := 22) rfl)).1.trans k9.1), ((u_8 (B + 18) (leb (B := B) (i := 18) (j := 18) rfl) (leb (B := B) (i := 18) (j := 22) rfl)).2.1.trans k9.2)⟩
      · exact ⟨((u_8 (B + 19) (leb (B := B) (i := 18) (j := 19) rfl) (leb (B := B) (i := 19) (j := 22) rfl)).1.trans (ki9 (B + 19) (lb (B := B) (i := 18) (j := 19) rfl) (leb (B := B) (i := 19) (j := 22) rfl)).1), ((u_8 (B + 19) (leb (B := B) (i := 18) (j := 19) rfl) (leb (B := B) (i := 19) (j := 22) rfl)).2.1.trans (ki9 (B + 19) (lb (B := B) (i := 18) (j := 19) rfl) (leb (B := B) (i := 19) (j := 22) rfl)).2)⟩
      · exact ⟨((u_8 (B + 20) (leb (B := B) (i := 18) (j := 20) rfl) (leb (B := B) (i := 20) (j := 22) rfl)).1.trans (ki9 (B + 20) (lb (B := B) (i := 18) (j := 20) rfl) (leb (B := B) (i := 20) (j := 22) rfl)).1), ((u_8 (B + 20) (leb (B := B) (i := 18) (j := 20) rfl) (leb (B := B) (i := 20) (j := 22) rfl)).2.1.trans (ki9 (B + 20) (lb (B := B) (i := 18) (j := 20) rfl) (leb (B := B) (i := 20) (j := 22) rfl)).2)⟩
      · exact ⟨((u_8 (B + 21) (leb (B := B) (i := 18) (j := 21) rfl) (leb (B := B) (i := 21) (j := 22) rfl)).1.trans (ki9 (B + 21) (lb (B := B) (i := 18) (j := 21) rfl) (leb (B := B) (i := 21) (j := 22) rfl)).1), ((u_8 (B + 21) (leb (B := B) (i := 18) (j := 21) rfl) (leb (B := B) (i := 21) (j := 22) rfl)).2.1.trans (ki9 (B + 21) (lb (B := B) (i := 18) (j := 21) rfl) (leb (B := B) (i := 21) (j := 22) rfl)).2)⟩
      · exact ⟨((u_8 (B + 22) (leb (B := B) (i := 18) (j := 22) rfl) (leb (B := B) (i := 22) (j := 22) rfl)).1.trans (ki9 (B + 22) (lb (B := B) (i := 18) (j := 22) rfl) (leb (B := B) (i := 22) (j := 22) rfl)).1), ((u_8 (B + 22) (leb (B := B) (i := 18) (j := 22) rfl) (leb (B := B) (i := 22) (j := 22) rfl)).2.1.trans (ki9 (B + 22) (lb (B := B) (i := 18) (j := 22) rfl) (leb (B := B) (i := 22) (j := 22) rfl)).2)⟩
      · exact ⟨((u_10 (B + 23) (leb (B := B) (i := 23) (j := 23) rfl) (leb (B := B) (i := 23) (j := 23) rfl)).1.trans k11.1), ((u_10 (B + 23) (leb (B := B) (i := 23) (j := 23) rfl) (leb (B := B) (i := 23) (j := 23) rfl)).2.1.trans k11.2)⟩
    · exact fun j hj => (Eq.trans (congrFun (u_2 (B + 2) (leb (B := B) (i := 2) (j := 2) rfl) (leb (B := B) (i := 2) (j := 7) rfl)).2.2 _) (mr3 j hj))
    · exact fun j hj => (Eq.trans (congrFun (u_4 (B + 8) (leb (B := B) (i := 8) (j := 8) rfl) (leb (B := B) (i := 8) (j := 16) rfl)).2.2 _) (mr5 j hj))
    · exact fun j hj => (Eq.trans (congrFun (u_8 (B + 18) (leb (B := B) (i := 18) (j := 18) rfl) (leb (B := B) (i := 18) (j := 22) rfl)).2.2 _) (mr9 j hj))
  · rcases zs14 c0 c1 with h | h | h | h | h | h | h
    · rw [h]; rw [q11 B (nb (B := B) (i := 0) (j := 23) rfl), q9 B (lb (B := B) (i := 0) (j := 18) rfl), q7 B (nb (B := B) (i := 0) (j := 17) rfl), q5 B (lb (B := B) (i := 0) (j := 8) rfl), q3 B (lb (B := B) (i := 0) (j := 2) rfl), q1 B (nb (B := B) (i := 0) (j := 1) rfl)]; exact hM i
    · rw [h]; rw [q11 (B + 1) (nb (B := B) (i := 1) (j := 23) rfl), q9 (B + 1) (lb (B := B) (i := 1) (j := 18) rfl), q7 (B + 1) (nb (B := B) (i := 1) (j := 17) rfl), q5 (B + 1) (lb (B := B) (i := 1) (j := 8) rfl), q3 (B + 1) (lb (B := B) (i := 1) (j := 2) rfl)]; exact m1 i
    · rw [q11 c (Nat.ne_of_lt (Nat.lt_of_le_of_lt h.2 (lb (B := B) (i := 7) (j := 23) rfl))), q9 c (Nat.lt_of_le_of_lt h.2 (lb (B := B) (i := 7) (j := 18) rfl)), q7 c (Nat.ne_of_lt (Nat.lt_of_le_of_lt h.2 (lb (B := B) (i := 7) (j := 17) rfl))), q5 c (Nat.lt_of_le_of_lt h.2 (lb (B := B) (i := 7) (j := 8) rfl))]; exact m3 c h.1 h.2 i
    · rw [q11 c (Nat.ne_of_lt (Nat.lt_of_le_of_lt h.2 (lb (B := B) (i := 16) (j := 23) rfl))), q9 c (Nat.lt_of_le_of_lt h.2 (lb (B := B) (i := 16) (j := 18) rfl)), q7 c (Nat.ne_of_lt (Nat.lt_of_le_of_lt h.2 (lb (B := B) (i := 16) (j := 17) rfl)))]; exact m5 c h.1 h.2 i
    · rw [h]; rw [q11 (B + 17) (nb (B := B) (i := 17) (j := 23) rfl), q9 (B + 17) (lb (B := B) (i := 17) (j := 18) rfl)]; exact m7 i
    · rw [q11 c (Nat.ne_of_lt (Nat.lt_of_le_of_lt h.2 (lb (B := B) (i := 22) (j := 23) rfl)))]; exact m9 c h.1 h.2 i
    · rw [h]; exact m11 i
theorem zs8 {P : Nat} {c : Nat} (c0 : P ≤ c) (c1 : c ≤ (P + 10)) : (c = P) ∨ (c = (P + 1)) ∨ (c = (P + 2)) ∨ (c = (P + 3)) ∨ ((P + 4) ≤ c ∧ c ≤ (P + 10)) := (Nat.lt_or_ge c (P + 1)).elim (fun h0 => Or.inl (Nat.le_antisymm (Nat.le_of_lt_succ h0) c0)) (fun h0 => Or.inr ((Nat.lt_or_ge c (P + 2)).elim (fun h1 => Or.inl (Nat.le_antisymm (Nat.le_of_lt_succ h1) h0)) (fun h1 => Or.inr ((Nat.lt_or_ge c (P + 3)).elim (fun h2 => Or.inl (Nat.le_antisymm (Nat.le_of_lt_succ h2) h1)) (fun h2 => Or.inr ((Nat.lt_or_ge c (P + 4)).elim (fun h3 => Or.inl (Nat.le_antisymm (Nat.le_of_lt_succ h3) h2)) (fun h3 => Or.inr (⟨h3, c1⟩))))))))
set_option maxHeartbeats 8000000 in
theorem t8 {g : AG} {M : AM} {P : Nat} (hN : 100 + gN g = (P + 1)) (hK : gK g P = 4) (hL0 : gL g P = 0) (hM : ∀ i : Int, M P i = 0) :
    Ok 0 8 0 [aR P] [] g M (fun o g9 M9 => o = .inl none ∧ gN g9 = gN g + 10 ∧ gS g9 = gS g + 56 ∧ ShPlan g9 P ∧ (∀ c : Nat, c < P → SG g g9 c) ∧ (∀ c : Nat, c < P → M9 c = M c) ∧ ∀ c : Nat, P ≤ c → c ≤ (P + 10) → ∀ i : Int, M9 c i = 0) := by
  refine ok_aloadn (pc' := 1) i8_0 rfl rfl <| ok_objinit (pc' := 4) i8_1 o8 m4_3 (by rw [hK]; decide) (bt rfl) rfl <| ok_aloadn (pc' := 5) i8_4 rfl rfl <| ok_iconst (pc' := 6) i8_5 rfl <| ?_
  refine ok_newarrF (r := (P + 1)) (ln := 4) (kd := 20) (pc' := 8) i8_6 rfl (by decide) rfl (by decide) hN rfl (fun g1 M1 n1 z1 k1 s1 m1 q1 => ?_)
  have a1 : 100 + gN g1 = (P + 2) := nx hN n1 rfl
  have b1 : gS g1 = gS g + 4 := sx rfl z1 rfl
  refine ok_putrF (pc' := 11) i8_8 o8 pr8_9 (Eq.trans (s1 P (nb (B := P) (i := 0) (j := 1) rfl)).1 hK) rfl (fun g2 n2 z2 r2 e2 o2 s2 => ?_)
  have a2 := nx0 a1 n2
  have b2 := z2.trans b1
  refine ok_aloadn (pc' := 12) i8_11 rfl rfl <| ok_iconst (pc' := 13) i8_12 rfl <| ?_
  refine ok_newarrF (r := (P + 2)) (ln := 4) (kd := 20) (pc' := 15) i8_13 rfl (by decide) rfl (by decide) a2 rfl (fun g3 M3 n3 z3 k3 s3 m3 q3 => ?_)
  have a3 : 100 + gN g3 = (P + 3) := nx a2 n3 rfl
  have b3 : gS g3 = gS g + 8 := sx b2 z3 rfl
  refine ok_putrF (pc' := 18) i8_15 o8 pr8_15 (Eq.trans (s3 P (nb (B := P) (i := 0) (j := 2) rfl)).1 (Eq.trans (congrFun e2.1 P) (Eq.trans (s1 P (nb (B := P) (i := 0) (j := 1) rfl)).1 hK))) rfl (fun g4 n4 z4 r4 e4 o4 s4 => ?_)
  have a4 := nx0 a3 n4
  have b4 := z4.trans b3
  refine ok_aloadn (pc' := 19) i8_18 rfl rfl <| ok_bipush (v := 6) (pc' := 21) i8_19 rfl rfl <| ?_
  refine ok_newarrF (r := (P + 3)) (ln := 6) (kd := 20) (pc' := 23) i8_21 rfl (by decide) rfl (by decide) a4 rfl (fun g5 M5 n5 z5 k5 s5 m5 q5 => ?_)
  have a5 : 100 + gN g5 = (P + 4) := nx a4 n5 rfl
  have b5 : gS g5 = gS g + 14 := sx b4 z5 rfl
  refine ok_putrF (pc' := 26) i8_23 o8 pr8_18 (Eq.trans (s5 P (nb (B := P) (i := 0) (j := 3) rfl)).1 (Eq.trans (congrFun e4.1 P) (Eq.trans (s3 P (nb (B := P) (i := 0) (j := 2) rfl)).1 (Eq.trans (congrFun e2.1 P) (Eq.trans (s1 P (nb (B := P) (i := 0) (j := 1) rfl)).1 hK))))) rfl (fun g6 n6 z6 r6 e6 o6 s6 => ?_)
  have a6 := nx0 a5 n6
  have b6 := z6.trans b5
  refine ok_aloadn (pc' := 27) i8_26 rfl rfl <| ok_bipush (v := 6) (pc' := 29) i8_27 rfl rfl <| ok_bipush (v := 6) (pc' := 31) i8_29 rfl rfl <| ?_
  refine ok_multiF (r := (P + 4)) (n := 6) (w := 6) (pc' := 35) i8_31 o8 ck4_21 rfl (by decide) rfl (by decide) a6 rfl (fun g7 M7 n7 z7 k7 ki7 mr7 s7 m7 q7 => ?_)
  have a7 : 100 + gN g7 = (P + 11) := nx a6 n7 rfl
  have b7 : gS g7 = gS g + 56 := sx b6 z7 rfl
  refine ok_putrF (pc' := 38) i8_35 o8 pr8_23 (Eq.trans (s7 P (lb (B := P) (i := 0) (j := 4) rfl)).1 (Eq.trans (congrFun e6.1 P) (Eq.trans (s5 P (nb (B := P) (i := 0) (j := 3) rfl)).1 (Eq.trans (congrFun e4.1 P) (Eq.trans (s3 P (nb (B := P) (i := 0) (j := 2) rfl)).1 (Eq.trans (congrFun e2.1 P) (Eq.trans (s1 P (nb (B := P) (i := 0) (j := 1) rfl)).1 hK))))))) rfl (fun g8 n8 z8 r8 e8 o8 s8 => ?_)
  have a8 := nx0 a7 n8
  have b8 := z8.trans b7
  refine ok_vret i8_38 rt8 <| ?_
  have u_0 : ∀ c : Nat, (P + 1) ≤ c → c ≤ (P + 1) → SG g1 g8 c := fun c c0 c1 => (SG.trans (SG.trans (SG.trans (SG.trans (SG.trans (SG.trans (s2 c (Nat.ne_of_gt (Nat.lt_of_lt_of_le (lb (B := P) (i := 0) (j := 1) rfl) c0))) (s3 c (Nat.ne_of_lt (Nat.lt_of_le_of_lt c1 (lb (B := P) (i := 1) (j := 2) rfl))))) (s4 c (Nat.ne_of_gt (Nat.lt_of_lt_of_le (lb (B := P) (i := 0) (j := 1) rfl) c0)))) (s5 c (Nat.ne_of_lt (Nat.lt_of_le_of_lt c1 (lb (B := P) (i := 1) (j := 3) rfl))))) (s6 c (Nat.ne_of_gt (Nat.lt_of_lt_of_le (lb (B := P) (i := 0) (j := 1) rfl) c0)))) (s7 c (Nat.lt_of_le_of_lt c1 (lb (B := P) (i := 1) (j := 4) rfl)))) (s8 c (Nat.ne_of_gt (Nat.lt_of_lt_of_le (lb (B := P) (i := 0) (j := 1) rfl) c0))))
  have u_2 : ∀ c : Nat, (P + 2) ≤ c → c ≤ (P + 2) → SG g3 g8 c := fun c c0 c1 => (SG.trans (SG.trans (SG.trans (SG.trans (s4 c (Nat.ne_of_gt (Nat.lt_of_lt_of_le (lb (B := P) (i := 0) (j := 2) rfl) c0))) (s5 c (Nat.ne_of_lt (Nat.lt_of_le_of_lt c1 (lb (B := P) (i := 2) (j := 3) rfl))))) (s6 c (Nat.ne_of_gt (Nat.lt_of_lt_of_le (lb (B := P) (i := 0) (j := 2) rfl) c0)))) (s7 c (Nat.lt_of_le_of_lt c1 (lb (B := P) (i := 2) (j := 4) rfl)))) (s8 c (Nat.ne_of_gt (Nat.lt_of_lt_of_le (lb (B := P) (i := 0) (j := 2) rfl) c0))))
  have u_4 : ∀ c : Nat, (P + 3) ≤ c → c ≤ (P + 3) → SG g5 g8 c := fun c c0 c1 => (SG.trans (SG.trans (s6 c (Nat.ne_of_gt (Nat.lt_of_lt_of_le (lb (B := P) (i := 0) (j := 3) rfl) c0))) (s7 c (Nat.lt_of_le_of_lt c1 (lb (B := P) (i := 3) (j := 4) rfl)))) (s8 c (Nat.ne_of_gt (Nat.lt_of_lt_of_le (lb (B := P) (i := 0) (j := 3) rfl) c0))))
  have u_6 : ∀ c : Nat, (P + 4) ≤ c → c ≤ (P + 10) → SG g7 g8 c := fun c c0 c1 => (s8 c (Nat.ne_of_gt (Nat.lt_of_lt_of_le (lb (B := P) (i := 0) (j := 4) rfl) c0)))
  refine ⟨rfl, nf hN a8 rfl, b8, ?_, fun c hc => (SG.trans (SG.trans (SG.trans (SG.trans (SG.trans (SG.trans (SG.trans (s1 c (Nat.ne_of_lt (Nat.lt_of_lt_of_le hc (leb (B := P) (i := 0) (j := 1) rfl)))) (s2 c (Nat.ne_of_lt (Nat.lt_of_lt_of_le hc (leb (B := P) (i := 0) (j := 0) rfl))))) (s3 c (Nat.ne_of_lt (Nat.lt_of_lt_of_le hc (leb (B := P) (i := 0) (j := 2) rfl))))) (s4 c (Nat.ne_of_lt (Nat.lt_of_lt_of_le hc (leb (B := P) (i := 0) (j := 0) rfl))))) (s5 c (Nat.ne_of_lt (Nat.lt_of_lt_of_le hc (leb (B := P) (i := 0) (j := 3) rfl))))) (s6 c (Nat.ne_of_lt (Nat.lt_of_lt_of_le hc (leb (B := P) (i := 0) (j := 0) rfl))))) (s7 c (Nat.lt_of_lt_of_le hc (leb (B := P) (i := 0) (j := 4) rfl)))) (s8 c (Nat.ne_of_lt (Nat.lt_of_lt_of_le hc (leb (B := P) (i := 0) (j := 0) rfl))))), fun c hc => by rw [q7 c (Nat.lt_of_lt_of_le hc (leb (B := P) (i := 0) (j := 4) rfl)), q5 c (Nat.ne_of_lt (Nat.lt_of_lt_of_le hc (leb (B := P) (i := 0) (j := 3) rfl))), q3 c (Nat.ne_of_lt (Nat.lt_of_lt_of_le hc (leb (B := P) (i := 0) (j := 2) rfl))), q1 c (Nat.ne_of_lt (Nat.lt_of_lt_of_le hc (leb (B := P) (i := 0) (j := 1) rfl)))], fun c c0 c1 i => ?_⟩
  · refine ⟨?_, (Eq.trans (o8 1 (by decide)) (Eq.trans (congrFun (s7 P (lb (B := P) (i := 0) (j := 4) rfl)).2.2 1) (Eq.trans (o6 1 (by decide)) (Eq.trans (congrFun (s5 P (nb (B := P) (i := 0) (j := 3) rfl)).2.2 1) (Eq.trans (o4 1 (by decide)) (Eq.trans (congrFun (s3 P (nb (B := P) (i := 0) (j := 2) rfl)).2.2 1) r2)))))), (Eq.trans (o8 2 (by decide)) (Eq.trans (congrFun (s7 P (lb (B := P) (i := 0) (j := 4) rfl)).2.2 2) (Eq.trans (o6 2 (by decide)) (Eq.trans (congrFun (s5 P (nb (B := P) (i := 0) (j := 3) rfl)).2.2 2) r4)))), (Eq.trans (o8 4 (by decide)) (Eq.trans (congrFun (s7 P (lb (B := P) (i := 0) (j := 4) rfl)).2.2 4) r6)), r8, ?_⟩
    · intro j hj
      rcases lt_11 hj with rfl | rfl | rfl | rfl | rfl | rfl | rfl | rfl | rfl | rfl | rfl
      · exact ⟨(Eq.trans (congrFun e8.1 P) (Eq.trans (s7 P (lb (B := P) (i := 0) (j := 4) rfl)).1 (Eq.trans (congrFun e6.1 P) (Eq.trans (s5 P (nb (B := P) (i := 0) (j := 3) rfl)).1 (Eq.trans (congrFun e4.1 P) (Eq.trans (s3 P (nb (B := P) (i := 0) (j := 2) rfl)).1 (Eq.trans (congrFun e2.1 P) (Eq.trans (s1 P (nb (B := P) (i := 0) (j := 1) rfl)).1 hK)))))))), (Eq.trans (congrFun e8.2 P) (Eq.trans (s7 P (lb (B := P) (i := 0) (j := 4) rfl)).2.1 (Eq.trans (congrFun e6.2 P) (Eq.trans (s5 P (nb (B := P) (i := 0) (j := 3) rfl)).2.1 (Eq.trans (congrFun e4.2 P) (Eq.trans (s3 P (nb (B := P) (i := 0) (j := 2) rfl)).2.1 (Eq.trans (congrFun e2.2 P) (Eq.trans (s1 P (nb (B := P) (i := 0) (j := 1) rfl)).2.1 hL0))))))))⟩
      · exact ⟨((u_0 (P + 1) (leb (B := P) (i := 1) (j := 1) rfl) (leb (B := P) (i := 1) (j := 1) rfl)).1.trans k1.1), ((u_0 (P + 1) (leb (B := P) (i := 1) (j := 1) rfl) (leb (B := P) (i := 1) (j := 1) rfl)).2.1.trans k1.2)⟩
      · exact ⟨((u_2 (P + 2) (leb (B := P) (i := 2) (j := 2) rfl) (leb (B := P) (i := 2) (j := 2) rfl)).1.trans k3.1), ((u_2 (P + 2) (leb (B := P) (i := 2) (j := 2) rfl) (leb (B := P) (i := 2) (j := 2) rfl)).2.1.trans k3.2)⟩
      · exact ⟨((u_4 (P + 3) (leb (B := P) (i := 3) (j := 3) rfl) (leb (B := P) (i := 3) (j := 3) rfl)).1.trans k5.1), ((u_4 (P + 3) (leb (B := P) (i := 3) (j := 3) rfl) (leb (B := P) (i := 3) (j := 3) rfl)).2.1.trans k5.2)⟩
      · exact ⟨((u_6 (P + 4) (leb (B := P) (i := 4) (j := 4) rfl) (leb (B := P) (i := 4) (j := 10) rfl)).1.trans k7.1), ((u_6 (P + 4) (leb (B := P) (i := 4) (j := 4) rfl) (leb (B := P) (i := 4) (j := 10) rfl)).2.1.trans k7.2)⟩
      · exact ⟨((u_6 (P + 5) (leb (B := P) (i := 4) (j := 5) rfl) (leb (B := P) (i := 5) (j := 10) rfl)).1.trans (ki7 (P + 5) (lb (B := P) (i := 4) (j := 5) rfl) (leb (B := P) (i := 5) (j := 10) rfl)).1), ((u_6 (P + 5) (leb (B := P) (i := 4) (j := 5) rfl) (leb (B := P) (i := 5) (j := 10) rfl)).2.1.trans (ki7 (P + 5) (lb (B := P) (i := 4) (j := 5) rfl) (leb (B := P) (i := 5) (j := 10) rfl)).2)⟩
      · exact ⟨((u_6 (P + 6) (leb (B := P) (i := 4) (j := 6) rfl) (leb (B := P) (i := 6) (j := 10) rfl)).1.trans (ki7 (P + 6) (lb (B := P) (i := 4) (j := 6) rfl) (leb (B := P) (i := 6) (j := 10) rfl)).1), ((u_6 (P + 6) (leb (B := P) (i := 4) (j := 6) rfl) (leb (B := P) (i := 6) (j := 10) rfl)).2.1.trans (ki7 (P + 6) (lb (B := P) (i := 4) (j := 6) rfl) (leb (B := P) (i := 6) (j := 10) rfl)).2)⟩
      · exact ⟨((u_6 (P + 7) (leb (B := P) (i := 4) (j := 7) rfl) (leb (B := P) (i := 7) (j := 10) rfl)).1.trans (ki7 (P + 7) (lb (B := P) (i := 4) (j := 7) rfl) (leb (B := P) (i := 7) (j := 10) rfl)).1), ((u_6 (P + 7) (leb (B := P) (i := 4) (j := 7) rfl) (leb (B := P) (i := 7) (j := 10) rfl)).2.1.trans (ki7 (P + 7) (lb (B := P) (i := 4) (j := 7) rfl) (leb (B := P) (i := 7) (j := 10) rfl)).2)⟩
      · exact ⟨((u_6 (P + 8) (leb (B := P) (i := 4) (j := 8) rfl) (leb (B := P) (i := 8) (j := 10) rfl)).1.trans (ki7 (P + 8) (lb (B := P) (i := 4) (j := 8) rfl) (leb (B := P) (i := 8) (j := 10) rfl)).1), ((u_6 (P + 8) (leb (B := P) (i := 4) (j := 8) rfl) (leb (B := P) (i := 8) (j := 10) rfl)).2.1.trans (ki7 (P + 8) (lb (B := P) (i := 4) (j := 8) rfl) (leb (B := P) (i := 8) (j := 10) rfl)).2)⟩
      · exact ⟨((u_6 (P + 9) (leb (B := P) (i := 4) (j := 9) rfl) (leb (B := P) (i := 9) (j := 10) rfl)).1.trans (ki7 (P + 9) (lb (B := P) (i := 4) (j := 9) rfl) (leb (B := P) (i := 9) (j := 10) rfl)).1), ((u_6 (P + 9) (leb (B := P) (i := 4) (j := 9) rfl) (leb (B := P) (i := 9) (j := 10) rfl)).2.1.trans (ki7 (P + 9) (lb (B := P) (i := 4) (j := 9) rfl) (leb (B := P) (i := 9) (j := 10) rfl)).2)⟩
      · exact ⟨((u_6 (P + 10) (leb (B := P) (i := 4) (j := 10) rfl) (leb (B := P) (i := 10) (j := 10) rfl)).1.trans (ki7 (P + 10) (lb (B := P) (i := 4) (j := 10) rfl) (leb (B := P) (i := 10) (j := 10) rfl)).1), ((u_6 (P + 10) (leb (B := P) (i := 4) (j := 10) rfl) (leb (B := P) (i := 10) (j := 10) rfl)).2.1.trans (ki7 (P + 10) (lb (B := P) (i := 4) (j := 10) rfl) (leb (B := P) (i := 10) (j := 10) rfl)).2)⟩
    · exact fun j hj => (Eq.trans (congrFun (u_6 (P + 4) (leb (B := P) (i := 4) (j := 4) rfl) (leb (B := P) (i := 4) (j := 10) rfl)).2.2 _) (mr7 j hj))
  · rcases zs8 c0 c1 with h | h | h | h | h
    · rw [h]; rw [q7 P (lb (B := P) (i := 0) (j := 4) rfl), q5 P (nb (B := P) (i := 0) (j := 3) rfl), q3 P (nb (B := P) (i := 0) (j := 2) rfl), q1 P (nb (B := P) (i := 0) (j := 1) rfl)]; exact hM i
    · rw [h]; rw [q7 (P + 1) (lb (B := P) (i := 1) (j := 4) rfl), q5 (P + 1) (nb (B := P) (i := 1) (j := 3) rfl), q3 (P + 1) (nb (B := P) (i := 1) (j := 2) rfl)]; exact m1 i
    · rw [h]; rw [q7 (P + 2) (lb (B := P) (i := 2) (j := 4) rfl), q5 (P + 2) (nb (B := P) (i := 2) (j := 3) rfl)]; exact m3 i
    · rw [h]; rw [q7 (P + 3) (lb (B := P) (i := 3) (j := 4) rfl)]; exact m5 i
    · exact m7 c h.1 h.2 i
theorem zs32 {W : Nat} {c : Nat} (c0 : W ≤ c) (c1 : c ≤ W) : (c = W) := Nat.le_antisymm c1 c0
set_option maxHeartbeats 8000000 in
theorem t32 {g : AG} {M : AM} {W P B : Nat} (hN : 100 + gN g = (W + 1)) (hK : gK g W = 8) (hM : ∀ i : Int, M W i = 0) :
    Ok 0 32 0 [aR W, aR P, aR B] [] g M (fun o g9 M9 => o = .inl none ∧ gN g9 = gN g + 0 ∧ gS g9 = gS g + 0 ∧ ShWorks g9 W P B ∧ (∀ c : Nat, c < W → SG g g9 c) ∧ (∀ c : Nat, c < W → M9 c = M c) ∧ ∀ c : Nat, W ≤ c → c ≤ W → ∀ i : Int, M9 c i = 0) := by
  refine ok_aloadn (pc' := 1) i32_0 rfl rfl <| ok_objinit (pc' := 4) i32_1 o32 m8_3 (by rw [hK]; decide) (bt rfl) rfl <| ok_aloadn (pc' := 5) i32_4 rfl rfl <| ok_aloadn (pc' := 6) i32_5 rfl rfl <| ?_
  refine ok_putrF (pc' := 9) i32_6 o32 pr32_9 hK rfl (fun g1 n1 z1 r1 e1 o1 s1 => ?_)
  have a1 := nx0 hN n1
  have b1 := sx0 z1
  refine ok_aloadn (pc' := 10) i32_9 rfl rfl <| ok_aloadn (pc' := 11) i32_10 rfl rfl <| ?_
  refine ok_putrF (pc' := 14) i32_11 o32 pr32_15 (Eq.trans (congrFun e1.1 W) hK) rfl (fun g2 n2 z2 r2 e2 o2 s2 => ?_)
  have a2 := nx0 a1 n2
  have b2 := z2.trans b1
  refine ok_vret i32_14 rt32 <| ?_
  refine ⟨rfl, nf hN a2 rfl, b2, ?_, fun c hc => (SG.trans (s1 c (Nat.ne_of_lt (Nat.lt_of_lt_of_le hc (leb (B := W) (i := 0) (j := 0) rfl)))) (s2 c (Nat.ne_of_lt (Nat.lt_of_lt_of_le hc (leb (B := W) (i := 0) (j := 0) rfl))))), fun c hc => rfl, fun c c0 c1 i => ?_⟩
  · exact ⟨(Eq.trans (congrFun e2.1 W) (Eq.trans (congrFun e1.1 W) hK)), (Eq.trans (o2 0 (by decide)) r1), r2⟩
  · have h := zs32 c0 c1
    rw [h]; exact hM i
theorem zs28 {O : Nat} {c : Nat} (c0 : (O + 346) ≤ c) (c1 : c ≤ (O + 347)) : (c = (O + 346)) ∨ (c = (O + 347)) := (Nat.lt_or_ge c (O + 347)).elim (fun h0 => Or.inl (Nat.le_antisymm (Nat.le_of_lt_succ h0) c0)) (fun h0 => Or.inr (Nat.le_antisymm c1 h0))
set_option maxHeartbeats 8000000 in
theorem t28 {g : AG} {M : AM} {O : Nat} (hN : 100 + gN g = (O + 347)) (hK : gK g (O + 346) = 6) (hM : ∀ i : Int, M (O + 346) i = 0) :
    Ok 0 28 0 [aR (O + 346)] [] g M (fun o g9 M9 => o = .inl none ∧ gN g9 = gN g + 1 ∧ gS g9 = gS g + 320 ∧ ShText g9 (O + 346) ∧ (∀ c : Nat, c < (O + 346) → SG g g9 c) ∧ (∀ c : Nat, c < (O + 346) → M9 c = M c) ∧ ∀ c : Nat, (O + 346) ≤ c → c ≤ (O + 347) → ∀ i : Int, M9 c i = 0) := by
  refine ok_aloadn (pc' := 1) i28_0 rfl rfl <| ok_objinit (pc' := 4) i28_1 o28 m6_3 (by rw [hK]; decide) (bt rfl) rfl <| ok_aloadn (pc' := 5) i28_4 rfl rfl <| ok_sipush (v := 320) (pc' := 8) i28_5 rfl rfl <| ?_
  refine ok_newarrF (r := (O + 347)) (ln := 320) (kd := 21) (pc' := 10) i28_8 rfl (by decide) rfl (by decide) hN rfl (fun g1 M1 n1 z1 k1 s1 m1 q1 => ?_)
  have a1 : 100 + gN g1 = (O + 348) := nx hN n1 rfl
  have b1 : gS g1 = gS g + 320 := sx rfl z1 rfl
  refine ok_putrF (pc' := 13) i28_10 o28 pr28_11 (Eq.trans (s1 (O + 346) (nb (B := O) (i := 346) (j := 347) rfl)).1 hK) rfl (fun g2 n2 z2 r2 e2 o2 s2 => ?_)
  have a2 := nx0 a1 n2
  have b2 := z2.trans b1
  refine ok_vret i28_13 rt28 <| ?_
  have u_0 : ∀ c : Nat, (O + 347) ≤ c → c ≤ (O + 347) → SG g1 g2 c := fun c c0 c1 => (s2 c (Nat.ne_of_gt (Nat.lt_of_lt_of_le (lb (B := O) (i := 346) (j := 347) rfl) c0)))
  refine ⟨rfl, nf hN a2 rfl, b2, ?_, fun c hc => (SG.trans (s1 c (Nat.ne_of_lt (Nat.lt_of_lt_of_le hc (leb (B := O) (i := 346) (j := 347) rfl)))) (s2 c (Nat.ne_of_lt (Nat.lt_of_lt_of_le hc (leb (B := O) (i := 346) (j := 346) rfl))))), fun c hc => by rw [q1 c (Nat.ne_of_lt (Nat.lt_of_lt_of_le hc (leb (B := O) (i := 346) (j := 347) rfl)))], fun c c0 c1 i => ?_⟩
  · exact ⟨(Eq.trans (congrFun e2.1 (O + 346)) (Eq.trans (s1 (O + 346) (nb (B := O) (i := 346) (j := 347) rfl)).1 hK)), ((u_0 (O + 347) (leb (B := O) (i := 347) (j := 347) rfl) (leb (B := O) (i := 347) (j := 347) rfl)).1.trans k1.1), ((u_0 (O + 347) (leb (B := O) (i := 347) (j := 347) rfl) (leb (B := O) (i := 347) (j := 347) rfl)).2.1.trans k1.2), r2⟩
  · rcases zs28 c0 c1 with h | h
    · rw [h]; rw [q1 (O + 346) (nb (B := O) (i := 346) (j := 347) rfl)]; exact hM i
    · rw [h]; exact m1 i
theorem zs59 {O : Nat} {c : Nat} (c0 : (O + 100) ≤ c) (c1 : c ≤ (O + 101)) : (c = (O + 100)) ∨ (c = (O + 101)) := (Nat.lt_or_ge c (O + 101)).elim (fun h0 => Or.inl (Nat.le_antisymm (Nat.le_of_lt_succ h0) c0)) (fun h0 => Or.inr (Nat.le_antisymm c1 h0))
set_option maxHeartbeats 8000000 in
theorem t59 {g : AG} {M : AM} {O : Nat} (hN : 100 + gN g = (O + 101)) (hK : gK g (O + 100) = 2) (hM : ∀ i : Int, M (O + 100) i = 0) :
    Ok 0 59 0 [aR (O + 100), aR (O + 49)] [] g M (fun o g9 M9 => o = .inl none ∧ gN g9 = gN g + 1 ∧ gS g9 = gS g + 210 ∧ ShPacking g9 (O + 100) (O + 49) ∧ (∀ c : Nat, c < (O + 100) → SG g g9 c) ∧ (∀ c : Nat, c < (O + 100) → M9 c = M c) ∧ ∀ c : Nat, (O + 100) ≤ c → c ≤ (O + 101) → ∀ i : Int, M9 c i = 0) := by
  refine ok_aloadn (pc' := 1) i59_0 rfl rfl <| ok_objinit (pc' := 4) i59_1 o59 m2_3 (by rw [hK]; decide) (bt rfl) rfl <| ok_aloadn (pc' := 5) i59_4 rfl rfl <| ok_sipush (v := 210) (pc' := 8) i59_5 rfl rfl <| ?_
  refine ok_newarrF (r := (O + 101)) (ln := 210) (kd := 20) (pc' := 10) i59_8 rfl (by decide) rfl (by decide) hN rfl (fun g1 M1 n1 z1 k1 s1 m1 q1 => ?_)
  have a1 : 100 + gN g1 = (O + 102) := nx hN n1 rfl
  have b1 : gS g1 = gS g + 210 := sx rfl z1 rfl
  refine ok_putrF (pc' := 13) i59_10 o59 pr59_9 (Eq.trans (s1 (O + 100) (nb (B := O) (i := 100) (j := 101) rfl)).1 hK) rfl (fun g2 n2 z2 r2 e2 o2 s2 => ?_)
  have a2 := nx0 a1 n2
  have b2 := z2.trans b1
  refine ok_aloadn (pc' := 14) i59_13 rfl rfl <| ok_aloadn (pc' := 15) i59_14 rfl rfl <| ?_
  refine ok_putrF (pc' := 18) i59_15 o59 pr59_15 (Eq.trans (congrFun e2.1 (O + 100)) (Eq.trans (s1 (O + 100) (nb (B := O) (i := 100) (j := 101) rfl)).1 hK)) rfl (fun g3 n3 z3 r3 e3 o3 s3 => ?_)
  have a3 := nx0 a2 n3
  have b3 := z3.trans b2
  refine ok_vret i59_18 rt59 <| ?_
  have u_0 : ∀ c : Nat, (O + 101) ≤ c → c ≤ (O + 101) → SG g1 g3 c := fun c c0 c1 => (SG.trans (s2 c (Nat.ne_of_gt (Nat.lt_of_lt_of_le (lb (B := O) (i := 100) (j := 101) rfl) c0))) (s3 c (Nat.ne_of_gt (Nat.lt_of_lt_of_le (lb (B := O) (i := 100) (j := 101) rfl) c0))))
  refine ⟨rfl, nf hN a3 rfl, b3, ?_, fun c hc => (SG.trans (SG.trans (s1 c (Nat.ne_of_lt (Nat.lt_of_lt_of_le hc (leb (B := O) (i := 100) (j := 101) rfl)))) (s2 c (Nat.ne_of_lt (Nat.lt_of_lt_of_le hc (leb (B := O) (i := 100) (j := 100) rfl))))) (s3 c (Nat.ne_of_lt (Nat.lt_of_lt_of_le hc (leb (B := O) (i := 100) (j := 100) rfl))))), fun c hc => by rw [q1 c (Nat.ne_of_lt (Nat.lt_of_lt_of_le hc (leb (B := O) (i := 100) (j := 101) rfl)))], fun c c0 c1 i => ?_⟩
  · exact ⟨(Eq.trans (congrFun e3.1 (O + 100)) (Eq.trans (congrFun e2.1 (O + 100)) (Eq.trans (s1 (O + 100) (nb (B := O) (i := 100) (j := 101) rfl)).1 hK))), ((u_0 (O + 101) (leb (B := O) (i := 101) (j := 101) rfl) (leb (B := O) (i := 101) (j := 101) rfl)).1.trans k1.1), ((u_0 (O + 101) (leb (B := O) (i := 101) (j := 101) rfl) (leb (B := O) (i := 101) (j := 101) rfl)).2.1.trans k1.2), r3, (Eq.trans (o3 1 (by decide)) r2)⟩
  · rcases zs59 c0 c1 with h | h
    · rw [h]; rw [q1 (O + 100) (nb (B := O) (i := 100) (j := 101) rfl)]; exact hM i
    · rw [h]; exact m1 i
theorem zs66 {O : Nat} {c : Nat} (c0 : (O + 2) ≤ c) (c1 : c ≤ (O + 37)) : (c = (O + 2)) ∨ ((O + 3) ≤ c ∧ c ≤ (O + 13)) ∨ ((O + 14) ≤ c ∧ c ≤ (O + 37)) := (Nat.lt_or_ge c (O + 3)).elim (fun h0 => Or.inl (Nat.le_antisymm (Nat.le_of_lt_succ h0) c0)) (fun h0 => Or.inr ((Nat.lt_or_ge c (O + 14)).elim (fun h1 => Or.inl (⟨h0, Nat.le_of_lt_succ h1⟩)) (fun h1 => Or.inr (⟨h1, c1⟩))))
set_option maxHeartbeats 8000000 in
theorem t66 {g : AG} {M : AM} {O : Nat} (hN : 100 + gN g = (O + 3)) (hK : gK g (O + 2) = 3) (hM : ∀ i : Int, M (O + 2) i = 0) :
    Ok 1 66 0 [aR (O + 2), aR (O + 1)] [] g M (fun o g9 M9 => o = .inl none ∧ gN g9 = gN g + 35 ∧ gS g9 = gS g + 1068 ∧ ShParser g9 (O + 2) (O + 1) (O + 3) (O + 14) ∧ ShPlan g9 (O + 3) ∧ ShState g9 (O + 14) ∧ (∀ c : Nat, c < (O + 2) → SG g g9 c) ∧ (∀ c : Nat, c < (O + 2) → M9 c = M c) ∧ ∀ c : Nat, (O + 2) ≤ c → c ≤ (O + 37) → ∀ i : Int, M9 c i = 0) := by
  refine ok_aloadn (pc' := 1) i66_0 rfl rfl <| ok_objinit (pc' := 4) i66_1 o66 m3_3 (by rw [hK]; decide) (bt rfl) rfl <| ok_aloadn (pc' := 5) i66_4 rfl rfl <| ?_
  refine ok_newF (r := (O + 3)) (sl := 6) (pc' := 8) i66_5 o66 ck3_9 (by decide) rfl hN rfl (fun g1 M1 n1 z1 k1 s1 m1 q1 => ?_)
  have a1 : 100 + gN g1 = (O + 4) := nx hN n1 rfl
  have b1 : gS g1 = gS g + 6 := sx rfl z1 rfl
  refine ok_dup (pc' := 9) i66_8 rfl rfl <| ?_
  refine ok_cc i66_9 rfl (cl_i o66 (Or.inr m3_11) na8 rfl rfl (bt rfl) (bt rfl) rfl (by rw [k1.1]; decide)) ln8 (pd8 (aR (O + 3))) <| (Ok.deep (t8 (P := (O + 3)) a1 k1.1 k1.2 (fun i => m1 i)) (Nat.le_of_ble_eq_true rfl)).mono (fun o9 g2 M2 p2 => ?_)
  obtain ⟨rfl, n2, z2, h2a, s2, q2, m2⟩ := p2
  refine kt_0 (pc' := 12) rfl <| ?_
  have a2 : 100 + gN g2 = (O + 14) := nx a1 n2 rfl
  have b2 : gS g2 = gS g + 62 := sx b1 z2 rfl
  refine ok_putrF (pc' := 15) i66_12 o66 pr66_12 (Eq.trans (s2 (O + 2) (lb (B := O) (i := 2) (j := 3) rfl)).1 (Eq.trans (s1 (O + 2) (nb (B := O) (i := 2) (j := 3) rfl)).1 hK)) rfl (fun g3 n3 z3 r3 e3 o3 s3 => ?_)
  have a3 := nx0 a2 n3
  have b3 := z3.trans b2
  refine ok_aloadn (pc' := 16) i66_15 rfl rfl <| ?_
  refine ok_newF (r := (O + 14)) (sl := 10) (pc' := 19) i66_16 o66 ck3_18 (by decide) rfl a3 rfl (fun g4 M4 n4 z4 k4 s4 m4 q4 => ?_)
  have a4 : 100 + gN g4 = (O + 15) := nx a3 n4 rfl
  have b4 : gS g4 = gS g + 72 := sx b3 z4 rfl
  refine ok_dup (pc' := 20) i66_19 rfl rfl <| ?_
  refine ok_cc i66_20 rfl (cl_i o66 (Or.inr m3_20) na14 rfl rfl (bt rfl) (bt rfl) rfl (by rw [k4.1]; decide)) ln14 (pd14 (aR (O + 14))) <| (Ok.deep (t14 (B := (O + 14)) a4 k4.1 k4.2 (fun i => m4 i)) (Nat.le_of_ble_eq_true rfl)).mono (fun o9 g5 M5 p5 => ?_)
  obtain ⟨rfl, n5, z5, h5a, s5, q5, m5⟩ := p5
  refine kt_0 (pc' := 23) rfl <| ?_
  have a5 : 100 + gN g5 = (O + 38) := nx a4 n5 rfl
  have b5 : gS g5 = gS g + 1068 := sx b4 z5 rfl
  refine ok_putrF (pc' := 26) i66_23 o66 pr66_21 (Eq.trans (s5 (O + 2) (lb (B := O) (i := 2) (j := 14) rfl)).1 (Eq.trans (s4 (O + 2) (nb (B := O) (i := 2) (j := 14) rfl)).1 (Eq.trans (congrFun e3.1 (O + 2)) (Eq.trans (s2 (O + 2) (lb (B := O) (i := 2) (j := 3) rfl)).1 (Eq.trans (s1 (O + 2) (nb (B := O) (i := 2) (j := 3) rfl)).1 hK))))) rfl (fun g6 n6 z6 r6 e6 o6 s6 => ?_)
  have a6 := nx0 a5 n6
  have b6 := z6.trans b5
  refine ok_aloadn (pc' := 27) i66_26 rfl rfl <| ok_aloadn (pc' := 28) i66_27 rfl rfl <| ?_
  refine ok_putrF (pc' := 31) i66_28 o66 pr66_25 (Eq.trans (congrFun e6.1 (O + 2)) (Eq.trans (s5 (O + 2) (lb (B := O) (i := 2) (j := 14) rfl)).1 (Eq.trans (s4 (O + 2) (nb (B := O) (i := 2) (j := 14) rfl)).1 (Eq.trans (congrFun e3.1 (O + 2)) (Eq.trans (s2 (O + 2) (lb (B := O) (i := 2) (j := 3) rfl)).1 (Eq.trans (s1 (O + 2) (nb (B := O) (i := 2) (j := 3) rfl)).1 hK)))))) rfl (fun g7 n7 z7 r7 e7 o7 s7 => ?_)
  have a7 := nx0 a6 n7
  have b7 := z7.trans b6
  refine ok_vret i66_31 rt66 <| ?_
  refine ⟨rfl, nf hN a7 rfl, b7, ?_, ?_, ?_, fun c hc => (SG.trans (SG.trans (SG.trans (SG.trans (SG.trans (SG.trans (s1 c (Nat.ne_of_lt (Nat.lt_of_lt_of_le hc (leb (B := O) (i := 2) (j := 3) rfl)))) (s2 c (Nat.lt_of_lt_of_le hc (leb (B := O) (i := 2) (j := 3) rfl)))) (s3 c (Nat.ne_of_lt (Nat.lt_of_lt_of_le hc (leb (B := O) (i := 2) (j := 2) rfl))))) (s4 c (Nat.ne_of_lt (Nat.lt_of_lt_of_le hc (leb (B := O) (i := 2) (j := 14) rfl))))) (s5 c (Nat.lt_of_lt_of_le hc (leb (B := O) (i := 2) (j := 14) rfl)))) (s6 c (Nat.ne_of_lt (Nat.lt_of_lt_of_le hc (leb (B := O) (i := 2) (j := 2) rfl))))) (s7 c (Nat.ne_of_lt (Nat.lt_of_lt_of_le hc (leb (B := O) (i := 2) (j := 2) rfl))))), fun c hc => by rw [q5 c (Nat.lt_of_lt_of_le hc (leb (B := O) (i := 2) (j := 14) rfl)), q4 c (Nat.ne_of_lt (Nat.lt_of_lt_of_le hc (leb (B := O) (i := 2) (j := 14) rfl))), q2 c (Nat.lt_of_lt_of_le hc (leb (B := O) (i := 2) (j := 3) rfl)), q1 c (Nat.ne_of_lt (Nat.lt_of_lt_of_le hc (leb (B := O) (i := 2) (j := 3) rfl)))], fun c c0 c1 i => ?_⟩
  · exact ⟨(Eq.trans (congrFun e7.1 (O + 2)) (Eq.trans (congrFun e6.1 (O + 2)) (Eq.trans (s5 (O + 2) (lb (B := O) (i := 2) (j := 14) rfl)).1 (Eq.trans (s4 (O + 2) (nb (B := O) (i := 2) (j := 14) rfl)).1 (Eq.trans (congrFun e3.1 (O + 2)) (Eq.trans (s2 (O + 2) (lb (B := O) (i := 2) (j := 3) rfl)).1 (Eq.trans (s1 (O + 2) (nb (B := O) (i := 2) (j := 3) rfl)).1 hK))))))), r7, (Eq.trans (o7 1 (by decide)) (Eq.trans (o6 1 (by decide)) (Eq.trans (congrFun (s5 (O + 2) (lb (B := O) (i := 2) (j := 14) rfl)).2.2 1) (Eq.trans (congrFun (s4 (O + 2) (nb (B := O) (i := 2) (j := 14) rfl)).2.2 1) r3)))), (Eq.trans (o7 2 (by decide)) r6)⟩
  · exact ShPlan_fx h2a (fun c c0 c1 => (SG.trans (SG.trans (SG.trans (SG.trans (s3 c (Nat.ne_of_gt (Nat.lt_of_lt_of_le (lb (B := O) (i := 2) (j := 3) rfl) c0))) (s4 c (Nat.ne_of_lt (Nat.lt_of_lt_of_le c1 (leb (B := O) (i := 14) (j := 14) rfl))))) (s5 c (Nat.lt_of_lt_of_le c1 (leb (B := O) (i := 14) (j := 14) rfl)))) (s6 c (Nat.ne_of_gt (Nat.lt_of_lt_of_le (lb (B := O) (i := 2) (j := 3) rfl) c0)))) (s7 c (Nat.ne_of_gt (Nat.lt_of_lt_of_le (lb (B := O) (i := 2) (j := 3) rfl) c0)))))
  · exact ShState_fx h5a (fun c c0 c1 => (SG.trans (s6 c (Nat.ne_of_gt (Nat.lt_of_lt_of_le (lb (B := O) (i := 2) (j := 14) rfl) c0))) (s7 c (Nat.ne_of_gt (Nat.lt_of_lt_of_le (lb (B := O) (i := 2) (j := 14) rfl) c0)))))
  · rcases zs66 c0 c1 with h | h | h
    · rw [h]; rw [q5 (O + 2) (lb (B := O) (i := 2) (j := 14) rfl), q4 (O + 2) (nb (B := O) (i := 2) (j := 14) rfl), q2 (O + 2) (lb (B := O) (i := 2) (j := 3) rfl), q1 (O + 2) (nb (B := O) (i := 2) (j := 3) rfl)]; exact hM i
    · rw [q5 c (Nat.lt_of_le_of_lt h.2 (lb (B := O) (i := 13) (j := 14) rfl)), q4 c (Nat.ne_of_lt (Nat.lt_of_le_of_lt h.2 (lb (B := O) (i := 13) (j := 14) rfl)))]; exact m2 c h.1 h.2 i
    · exact m5 c h.1 h.2 i
theorem zs52 {O : Nat} {c : Nat} (c0 : (O + 74) ≤ c) (c1 : c ≤ (O + 99)) : (c = (O + 74)) ∨ ((O + 75) ≤ c ∧ c ≤ (O + 98)) ∨ ((O + 99) ≤ c ∧ c ≤ (O + 99)) := (Nat.lt_or_ge c (O + 75)).elim (fun h0 => Or.inl (Nat.le_antisymm (Nat.le_of_lt_succ h0) c0)) (fun h0 => Or.inr ((Nat.lt_or_ge c (O + 99)).elim (fun h1 => Or.inl (⟨h0, Nat.le_of_lt_succ h1⟩)) (fun h1 => Or.inr (⟨h1, c1⟩))))
set_option maxHeartbeats 8000000 in
theorem t52 {g : AG} {M : AM} {O : Nat} (hN : 100 + gN g = (O + 75)) (hK : gK g (O + 74) = 7) (hM : ∀ i : Int, M (O + 74) i = 0) :
    Ok 1 52 0 [aR (O + 74), aR (O + 38), aR (O + 49)] [] g M (fun o g9 M9 => o = .inl none ∧ gN g9 = gN g + 25 ∧ gS g9 = gS g + 1008 ∧ ShTrial g9 (O + 74) (O + 38) (O + 49) (O + 75) (O + 99) ∧ ShState g9 (O + 75) ∧ ShWorks g9 (O + 99) (O + 38) (O + 75) ∧ (∀ c : Nat, c < (O + 74) → SG g g9 c) ∧ (∀ c : Nat, c < (O + 74) → M9 c = M c) ∧ ∀ c : Nat, (O + 74) ≤ c → c ≤ (O + 99) → ∀ i : Int, M9 c i = 0) := by
  refine ok_aloadn (pc' := 1) i52_0 rfl rfl <| ok_objinit (pc' := 4) i52_1 o52 m7_3 (by rw [hK]; decide) (bt rfl) rfl <| ok_aloadn (pc' := 5) i52_4 rfl rfl <| ok_aloadn (pc' := 6) i52_5 rfl rfl <| ?_
  refine ok_putrF (pc' := 9) i52_6 o52 pr52_9 hK rfl (fun g1 n1 z1 r1 e1 o1 s1 => ?_)
  have a1 := nx0 hN n1
  have b1 := sx0 z1
  refine ok_aloadn (pc' := 10) i52_9 rfl rfl <| ok_aloadn (pc' := 11) i52_10 rfl rfl <| ?_
  refine ok_putrF (pc' := 14) i52_11 o52 pr52_15 (Eq.trans (congrFun e1.1 (O + 74)) hK) rfl (fun g2 n2 z2 r2 e2 o2 s2 => ?_)
  have a2 := nx0 a1 n2
  have b2 := z2.trans b1
  refine ok_aloadn (pc' := 15) i52_14 rfl rfl <| ?_
  refine ok_newF (r := (O + 75)) (sl := 10) (pc' := 18) i52_15 o52 ck7_19 (by decide) rfl a2 rfl (fun g3 M3 n3 z3 k3 s3 m3 q3 => ?_)
  have a3 : 100 + gN g3 = (O + 76) := nx a2 n3 rfl
  have b3 : gS g3 = gS g + 10 := sx b2 z3 rfl
  refine ok_dup (pc' := 19) i52_18 rfl rfl <| ?_
  refine ok_cc i52_19 rfl (cl_i o52 (Or.inr m7_21) na14 rfl rfl (bt rfl) (bt rfl) rfl (by rw [k3.1]; decide)) ln14 (pd14 (aR (O + 75))) <| (Ok.deep (t14 (B := (O + 75)) a3 k3.1 k3.2 (fun i => m3 i)) (Nat.le_of_ble_eq_true rfl)).mono (fun o9 g4 M4 p4 => ?_)
  obtain ⟨rfl, n4, z4, h4a, s4, q4, m4⟩ := p4
  refine kt_0 (pc' := 22) rfl <| ?_
  have a4 : 100 + gN g4 = (O + 99) := nx a3 n4 rfl
  have b4 : gS g4 = gS g + 1006 := sx b3 z4 rfl
  refine ok_putrF (pc' := 25) i52_22 o52 pr52_22 (Eq.trans (s4 (O + 74) (lb (B := O) (i := 74) (j := 75) rfl)).1 (Eq.trans (s3 (O + 74) (nb (B := O) (i := 74) (j := 75) rfl)).1 (Eq.trans (congrFun e2.1 (O + 74)) (Eq.trans (congrFun e1.1 (O + 74)) hK)))) rfl (fun g5 n5 z5 r5 e5 o5 s5 => ?_)
  have a5 := nx0 a4 n5
  have b5 := z5.trans b4
  refine ok_aloadn (pc' := 26) i52_25 rfl rfl <| ?_
  refine ok_newF (r := (O + 99)) (sl := 2) (pc' := 29) i52_26 o52 ck7_25 (by decide) rfl a5 rfl (fun g6 M6 n6 z6 k6 s6 m6 q6 => ?_)
  have a6 : 100 + gN g6 = (O + 100) := nx a5 n6 rfl
  have b6 : gS g6 = gS g + 1008 := sx b5 z6 rfl
  refine ok_dup (pc' := 30) i52_29 rfl rfl <| ok_aloadn (pc' := 31) i52_30 rfl rfl <| ok_aloadn (pc' := 32) i52_31 rfl rfl <| ok_getfr (r := (O + 75)) (pc' := 35) i52_32 o52 gr7_22 (Eq.trans (s6 (O + 74) (nb (B := O) (i := 74) (j := 99) rfl)).1 (Eq.trans (congrFun e5.1 (O + 74)) (Eq.trans (s4 (O + 74) (lb (B := O) (i := 74) (j := 75) rfl)).1 (Eq.trans (s3 (O + 74) (nb (B := O) (i := 74) (j := 75) rfl)).1 (Eq.trans (congrFun e2.1 (O + 74)) (Eq.trans (congrFun e1.1 (O + 74)) hK)))))) (Eq.trans (congrFun (s6 (O + 74) (nb (B := O) (i := 74) (j := 99) rfl)).2.2 2) r5) rfl <| ?_
  refine ok_cc i52_35 rfl (cl_i o52 (Or.inl m7_27) na32 rfl rfl (bt rfl) (bt rfl) rfl (by rw [k6.1]; decide)) ln32 (pd32 (aR (O + 99)) (aR (O + 38)) (aR (O + 75))) <| (Ok.deep (t32 (W := (O + 99)) (P := (O + 38)) (B := (O + 75)) a6 k6.1 (fun i => m6 i)) (Nat.le_of_ble_eq_true rfl)).mono (fun o9 g7 M7 p7 => ?_)
  obtain ⟨rfl, n7, z7, h7a, s7, q7, m7⟩ := p7
  refine kt_0 (pc' := 38) rfl <| ?_
  have a7 : 100 + gN g7 = (O + 100) := nx a6 n7 rfl
  have b7 : gS g7 = gS g + 1008 := sx b6 z7 rfl
  refine ok_putrF (pc' := 41) i52_38 o52 pr52_30 (Eq.trans (s7 (O + 74) (lb (B := O) (i := 74) (j := 99) rfl)).1 (Eq.trans (s6 (O + 74) (nb (B := O) (i := 74) (j := 99) rfl)).1 (Eq.trans (congrFun e5.1 (O + 74)) (Eq.trans (s4 (O + 74) (lb (B := O) (i := 74) (j := 75) rfl)).1 (Eq.trans (s3 (O + 74) (nb (B := O) (i := 74) (j := 75) rfl)).1 (Eq.trans (congrFun e2.1 (O + 74)) (Eq.trans (congrFun e1.1 (O + 74)) hK))))))) rfl (fun g8 n8 z8 r8 e8 o8 s8 => ?_)
  have a8 := nx0 a7 n8
  have b8 := z8.trans b7
  refine ok_vret i52_41 rt52 <| ?_
  refine ⟨rfl, nf hN a8 rfl, b8, ?_, ?_, ?_, fun c hc => (SG.trans (SG.trans (SG.trans (SG.trans (SG.trans (SG.trans (SG.trans (s1 c (Nat.ne_of_lt (Nat.lt_of_lt_of_le hc (leb (B := O) (i := 74) (j := 74) rfl)))) (s2 c (Nat.ne_of_lt (Nat.lt_of_lt_of_le hc (leb (B := O) (i := 74) (j := 74) rfl))))) (s3 c (Nat.ne_of_lt (Nat.lt_of_lt_of_le hc (leb (B := O) (i := 74) (j := 75) rfl))))) (s4 c (Nat.lt_of_lt_of_le hc (leb (B := O) (i := 74) (j := 75) rfl)))) (s5 c (Nat.ne_of_lt (Nat.lt_of_lt_of_le hc (leb (B := O) (i := 74) (j := 74) rfl))))) (s6 c (Nat.ne_of_lt (Nat.lt_of_lt_of_le hc (leb (B := O) (i := 74) (j := 99) rfl))))) (s7 c (Nat.lt_of_lt_of_le hc (leb (B := O) (i := 74) (j := 99) rfl)))) (s8 c (Nat.ne_of_lt (Nat.lt_of_lt_of_le hc (leb (B := O) (i := 74) (j := 74) rfl))))), fun c hc => by rw [q7 c (Nat.lt_of_lt_of_le hc (leb (B := O) (i := 74) (j := 99) rfl)), q6 c (Nat.ne_of_lt (Nat.lt_of_lt_of_le hc (leb (B := O) (i := 74) (j := 99) rfl))), q4 c (Nat.lt_of_lt_of_le hc (leb (B := O) (i := 74) (j := 75) rfl)), q3 c (Nat.ne_of_lt (Nat.lt_of_lt_of_le hc (leb (B := O) (i := 74) (j := 75) rfl)))], fun c c0 c1 i => ?_⟩
  · exact ⟨(Eq.trans (congrFun e8.1 (O + 74)) (Eq.trans (s7 (O + 74) (lb (B := O) (i := 74) (j := 99) rfl)).1 (Eq.trans (s6 (O + 74) (nb (B := O) (i := 74) (j := 99) rfl)).1 (Eq.trans (congrFun e5.1 (O + 74)) (Eq.trans (s4 (O + 74) (lb (B := O) (i := 74) (j := 75) rfl)).1 (Eq.trans (s3 (O + 74) (nb (B := O) (i := 74) (j := 75) rfl)).1 (Eq.trans (congrFun e2.1 (O + 74)) (Eq.trans (congrFun e1.1 (O + 74)) hK)))))))), (Eq.trans (o8 0 (by decide)) (Eq.trans (congrFun (s7 (O + 74) (lb (B := O) (i := 74) (j := 99) rfl)).2.2 0) (Eq.trans (congrFun (s6 (O + 74) (nb (B := O) (i := 74) (j := 99) rfl)).2.2 0) (Eq.trans (o5 0 (by decide)) (Eq.trans (congrFun (s4 (O + 74) (lb (B := O) (i := 74) (j := 75) rfl)).2.2 0) (Eq.trans (congrFun (s3 (O + 74) (nb (B := O) (i := 74) (j := 75) rfl)).2.2 0) (Eq.trans (o2 0 (by decide)) r1))))))), (Eq.trans (o8 1 (by decide)) (Eq.trans (congrFun (s7 (O + 74) (lb (B := O) (i := 74) (j := 99) rfl)).2.2 1) (Eq.trans (congrFun (s6 (O + 74) (nb (B := O) (i := 74) (j := 99) rfl)).2.2 1) (Eq.trans (o5 1 (by decide)) (Eq.trans (congrFun (s4 (O + 74) (lb (B := O) (i := 74) (j := 75) rfl)).2.2 1) (Eq.trans (congrFun (s3 (O + 74) (nb (B := O) (i := 74) (j := 75) rfl)).2.2 1) r2)))))), (Eq.trans (o8 2 (by decide)) (Eq.trans (congrFun (s7 (O + 74) (lb (B := O) (i := 74) (j := 99) rfl)).2.2 2) (Eq.trans (congrFun (s6 (O + 74) (nb (B := O) (i := 74) (j := 99) rfl)).2.2 2) r5))), r8⟩
  · exact ShState_fx h4a (fun c c0 c1 => (SG.trans (SG.trans (SG.trans (s5 c (Nat.ne_of_gt (Nat.lt_of_lt_of_le (lb (B := O) (i := 74) (j := 75) rfl) c0))) (s6 c (Nat.ne_of_lt (Nat.lt_of_lt_of_le c1 (leb (B := O) (i := 99) (j := 99) rfl))))) (s7 c (Nat.lt_of_lt_of_le c1 (leb (B := O) (i := 99) (j := 99) rfl)))) (s8 c (Nat.ne_of_gt (Nat.lt_of_lt_of_le (lb (B := O) (i := 74) (j := 75) rfl) c0)))))
  · exact ShWorks_fx h7a (fun c c0 c1 => (s8 c (Nat.ne_of_gt (Nat.lt_of_lt_of_le (lb (B := O) (i := 74) (j := 99) rfl) c0))))
  · rcases zs52 c0 c1 with h | h | h
    · rw [h]; rw [q7 (O + 74) (lb (B := O) (i := 74) (j := 99) rfl), q6 (O + 74) (nb (B := O) (i := 74) (j := 99) rfl), q4 (O + 74) (lb (B := O) (i := 74) (j := 75) rfl), q3 (O + 74) (nb (B := O) (i := 74) (j := 75) rfl)]; exact hM i
    · rw [q7 c (Nat.lt_of_le_of_lt h.2 (lb (B := O) (i := 98) (j := 99) rfl)), q6 c (Nat.ne_of_lt (Nat.lt_of_le_of_lt h.2 (lb (B := O) (i := 98) (j := 99) rfl)))]; exact m4 c h.1 h.2 i
    · exact m7 c h.1 h.2 i
