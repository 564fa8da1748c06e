/-! CONSTRUCTORS: the yard (by program, wip/p60/gen) -/
theorem zs87 {O : Nat} {c : Nat} (c0 : O ≤ c) (c1 : c ≤ (O + 347)) : (c = O) ∨ (c = (O + 1)) ∨ ((O + 2) ≤ c ∧ c ≤ (O + 37)) ∨ ((O + 38) ≤ c ∧ c ≤ (O + 48)) ∨ ((O + 49) ≤ c ∧ c ≤ (O + 72)) ∨ ((O + 73) ≤ c ∧ c ≤ (O + 73)) ∨ ((O + 74) ≤ c ∧ c ≤ (O + 99)) ∨ ((O + 100) ≤ c ∧ c ≤ (O + 101)) ∨ ((O + 102) ≤ c ∧ c ≤ (O + 295)) ∨ (c = (O + 296)) ∨ ((O + 297) ≤ c ∧ c ≤ (O + 320)) ∨ ((O + 321) ≤ c ∧ c ≤ (O + 344)) ∨ (c = (O + 345)) ∨ ((O + 346) ≤ c ∧ c ≤ (O + 347)) := (Nat.lt_or_ge c (O + 1)).elim (fun h0 => Or.inl (Nat.le_antisymm (Nat.le_of_lt_succ h0) c0)) (fun h0 => Or.inr ((Nat.lt_or_ge c (O + 2)).elim (fun h1 => Or.inl (Nat.le_antisymm (Nat.le_of_lt_succ h1) h0)) (fun h1 => Or.inr ((Nat.lt_or_ge c (O + 38)).elim (fun h2 => Or.inl (⟨h1, Nat.le_of_lt_succ h2⟩)) (fun h2 => Or.inr ((Nat.lt_or_ge c (O + 49)).elim (fun h3 => Or.inl (⟨h2, Nat.le_of_lt_succ h3⟩)) (fun h3 => Or.inr ((Nat.lt_or_ge c (O + 73)).elim (fun h4 => Or.inl (⟨h3, Nat.le_of_lt_succ h4⟩)) (fun h4 => Or.inr ((Nat.lt_or_ge c (O + 74)).elim (fun h5 => Or.inl (⟨h4, Nat.le_of_lt_succ h5⟩)) (fun h5 => Or.inr ((Nat.lt_or_ge c (O + 100)).elim (fun h6 => Or.inl (⟨h5, Nat.le_of_lt_succ h6⟩)) (fun h6 => Or.inr ((Nat.lt_or_ge c (O + 102)).elim (fun h7 => Or.inl (⟨h6, Nat.le_of_lt_succ h7⟩)) (fun h7 => Or.inr ((Nat.lt_or_ge c (O + 296)).elim (fun h8 => Or.inl (⟨h7, Nat.le_of_lt_succ h8⟩)) (fun h8 => Or.inr ((Nat.lt_or_ge c (O + 297)).elim (fun h9 => Or.inl (Nat.le_antisymm (Nat.le_of_lt_succ h9) h8)) (fun h9 => Or.inr ((Nat.lt_or_ge c (O + 321)).elim (fun h10 => Or.inl (⟨h9, Nat.le_of_lt_succ h10⟩)) (fun h10 => Or.inr ((Nat.lt_or_ge c (O + 345)).elim (fun h11 => Or.inl (⟨h10, Nat.le_of_lt_succ h11⟩)) (fun h11 => Or.inr ((Nat.lt_or_ge c (O + 346)).elim (fun h12 => Or.inl (Nat.le_antisymm (Nat.le_of_lt_succ h12) h11)) (fun h12 => Or.inr (⟨h12, c1⟩))))))))))))))))))))))))))
set_option maxHeartbeats 8000000 in
theorem t87 {g : AG} {M : AM} {O : Nat} (hN : 100 + gN g = (O + 1)) (hK : gK g O = 0) (hM : ∀ i : Int, M O i = 0) :
    Ok 2 87 0 [aR O, aU] [] g M (fun o g9 M9 => o = .inl none ∧ gN g9 = gN g + 347 ∧ gS g9 = gS g + 14470 ∧ ShYard g9 O (O + 38) (O + 49) (O + 73) (O + 74) (O + 100) (O + 102) (O + 346) ∧ ShParser g9 (O + 2) (O + 1) (O + 3) (O + 14) ∧ ShBytes g9 (O + 1) ∧ ShPlan g9 (O + 3) ∧ ShState g9 (O + 14) ∧ ShPlan g9 (O + 38) ∧ ShState g9 (O + 49) ∧ ShWorks g9 (O + 73) (O + 38) (O + 49) ∧ ShTrial g9 (O + 74) (O + 38) (O + 49) (O + 75) (O + 99) ∧ ShState g9 (O + 75) ∧ ShWorks g9 (O + 99) (O + 38) (O + 75) ∧ ShPacking g9 (O + 100) (O + 49) ∧ ShHist g9 (O + 102) ∧ (∀ j : Nat, j < 8 → ShState g9 (O + 104 + 24 * j)) ∧ (∀ j : Nat, j < 2 → ShState g9 (O + 297 + 24 * j)) ∧ ShText g9 (O + 346) ∧ M9 O 4 = -1 ∧ M9 O 5 = -1 ∧ (∀ c : Nat, c < O → SG g g9 c) ∧ (∀ c : Nat, c < O → M9 c = M c) ∧ ∀ c : Nat, O ≤ c → c ≤ (O + 347) → ∀ i : Int, ¬ (c = O ∧ i = 4) → ¬ (c = O ∧ i = 5) → M9 c i = 0) := by
  refine ok_aloadn (pc' := 1) i87_0 rfl rfl <| ok_objinit (pc' := 4) i87_1 o87 m0_3 (by rw [hK]; decide) (bt rfl) rfl <| ok_aloadn (pc' := 5) i87_4 rfl rfl <| ok_sipush (v := 700) (pc' := 8) i87_5 rfl rfl <| ?_
  refine ok_newarrF (r := (O + 1)) (ln := 700) (kd := 21) (pc' := 10) i87_8 rfl (by decide) rfl (by decide) hN rfl (fun g1 M1 n1 z1 k1 s1 m1 q1 => ?_)
  have a1 : 100 + gN g1 = (O + 2) := nx hN n1 rfl
  have b1 : gS g1 = gS g + 700 := sx rfl z1 rfl
  have kk1 : gK g1 O = 0 := Eq.trans (s1 O (nb (B := O) (i := 0) (j := 1) rfl)).1 hK
  refine ok_putrF (pc' := 13) i87_10 o87 pr87_9 kk1 rfl (fun g2 n2 z2 r2 e2 o2 s2 => ?_)
  have a2 := nx0 a1 n2
  have b2 := z2.trans b1
  refine ok_aloadn (pc' := 14) i87_13 rfl rfl <| ?_
  refine ok_newF (r := (O + 2)) (sl := 9) (pc' := 17) i87_14 o87 ck0_13 (by decide) rfl a2 rfl (fun g3 M3 n3 z3 k3 s3 m3 q3 => ?_)
  have a3 : 100 + gN g3 = (O + 3) := nx a2 n3 rfl
  have b3 : gS g3 = gS g + 709 := sx b2 z3 rfl
  refine ok_dup (pc' := 18) i87_17 rfl rfl <| ok_aloadn (pc' := 19) i87_18 rfl rfl <| ?_
  have kk2 : gK g2 O = 0 := Eq.trans (congrFun e2.1 O) kk1
  have kk3 : gK g3 O = 0 := Eq.trans (s3 O (nb (B := O) (i := 0) (j := 2) rfl)).1 kk2
  refine ok_getfr (r := (O + 1)) (pc' := 22) i87_19 o87 gr0_9 kk3 (Eq.trans (congrFun (s3 O (nb (B := O) (i := 0) (j := 2) rfl)).2.2 0) r2) rfl <| ?_
  refine ok_cc i87_22 rfl (cl_i o87 (Or.inl m0_15) na66 rfl rfl (bt rfl) (bt rfl) rfl (by rw [k3.1]; decide)) ln66 (pd66 (aR (O + 2)) (aR (O + 1))) <| (Ok.deep (t66 (O := O) a3 k3.1 (fun i => m3 i)) (Nat.le_of_ble_eq_true rfl)).mono (fun o9 g4 M4 p4 => ?_)
  obtain ⟨rfl, n4, z4, h4a, h4b, h4c, s4, q4, m4⟩ := p4
  refine kt_0 (pc' := 25) rfl <| ?_
  have a4 : 100 + gN g4 = (O + 38) := nx a3 n4 rfl
  have b4 : gS g4 = gS g + 1777 := sx b3 z4 rfl
  have kk4 : gK g4 O = 0 := Eq.trans (s4 O (lb (B := O) (i := 0) (j := 2) rfl)).1 kk3
  refine ok_putrF (pc' := 28) i87_25 o87 pr87_18 kk4 rfl (fun g5 n5 z5 r5 e5 o5 s5 => ?_)
  have a5 := nx0 a4 n5
  have b5 := z5.trans b4
  refine ok_aloadn (pc' := 29) i87_28 rfl rfl <| ok_iconst (pc' := 30) i87_29 rfl <| ?_
  have kk5 : gK g5 O = 0 := Eq.trans (congrFun e5.1 O) kk4
  refine ok_putfj (kk := 4) (pc' := 33) i87_30 o87 pi87_22 kk5 rfl rfl ?_
  obtain ⟨M6, q6⟩ : ∃ u9 : AM, u9 = up2 M4 O 4 (-1) := ⟨_, rfl⟩
  rw [← q6]
  refine ok_aloadn (pc' := 34) i87_33 rfl rfl <| ok_iconst (pc' := 35) i87_34 rfl <| ?_
  refine ok_putfj (kk := 5) (pc' := 38) i87_35 o87 pi87_26 kk5 rfl rfl ?_
  obtain ⟨M7, q7⟩ : ∃ u9 : AM, u9 = up2 M6 O 5 (-1) := ⟨_, rfl⟩
  rw [← q7]
  refine ok_aloadn (pc' := 39) i87_38 rfl rfl <| ?_
  refine ok_newF (r := (O + 38)) (sl := 6) (pc' := 42) i87_39 o87 ck0_29 (by decide) rfl a5 rfl (fun g8 M8 n8 z8 k8 s8 m8 q8 => ?_)
  have a8 : 100 + gN g8 = (O + 39) := nx a5 n8 rfl
  have b8 : gS g8 = gS g + 1783 := sx b5 z8 rfl
  refine ok_dup (pc' := 43) i87_42 rfl rfl <| ?_
  refine ok_cc i87_43 rfl (cl_i o87 (Or.inr m0_31) na8 rfl rfl (bt rfl) (bt rfl) rfl (by rw [k8.1]; decide)) ln8 (pd8 (aR (O + 38))) <| (Ok.deep (t8 (P := (O + 38)) a8 k8.1 k8.2 (fun i => m8 i)) (Nat.le_of_ble_eq_true rfl)).mono (fun o9 g9 M9 p9 => ?_)
  obtain ⟨rfl, n9, z9, h9a, s9, q9, m9⟩ := p9
  refine kt_0 (pc' := 46) rfl <| ?_
  have a9 : 100 + gN g9 = (O + 49) := nx a8 n9 rfl
  have b9 : gS g9 = gS g + 1839 := sx b8 z9 rfl
  have kk8 : gK g8 O = 0 := Eq.trans (s8 O (nb (B := O) (i := 0) (j := 38) rfl)).1 kk5
  have kk9 : gK g9 O = 0 := Eq.trans (s9 O (lb (B := O) (i := 0) (j := 38) rfl)).1 kk8
  refine ok_putrF (pc' := 49) i87_46 o87 pr87_32 kk9 rfl (fun g10 n10 z10 r10 e10 o10 s10 => ?_)
  have a10 := nx0 a9 n10
  have b10 := z10.trans b9
  refine ok_aloadn (pc' := 50) i87_49 rfl rfl <| ?_
  refine ok_newF (r := (O + 49)) (sl := 10) (pc' := 53) i87_50 o87 ck0_36 (by decide) rfl a10 rfl (fun g11 M11 n11 z11 k11 s11 m11 q11 => ?_)
  have a11 : 100 + gN g11 = (O + 50) := nx a10 n11 rfl
  have b11 : gS g11 = gS g + 1849 := sx b10 z11 rfl
  refine ok_dup (pc' := 54) i87_53 rfl rfl <| ?_
  refine ok_cc i87_54 rfl (cl_i o87 (Or.inr m0_38) na14 rfl rfl (bt rfl) (bt rfl) rfl (by rw [k11.1]; decide)) ln14 (pd14 (aR (O + 49))) <| (Ok.deep (t14 (B := (O + 49)) a11 k11.1 k11.2 (fun i => m11 i)) (Nat.le_of_ble_eq_true rfl)).mono (fun o9 g12 M12 p12 => ?_)
  obtain ⟨rfl, n12, z12, h12a, s12, q12, m12⟩ := p12
  refine kt_0 (pc' := 57) rfl <| ?_
  have a12 : 100 + gN g12 = (O + 73) := nx a11 n12 rfl
  have b12 : gS g12 = gS g + 2845 := sx b11 z12 rfl
  have kk10 : gK g10 O = 0 := Eq.trans (congrFun e10.1 O) kk9
  have kk11 : gK g11 O = 0 := Eq.trans (s11 O (nb (B := O) (i := 0) (j := 49) rfl)).1 kk10
  have kk12 : gK g12 O = 0 := Eq.trans (s12 O (lb (B := O) (i := 0) (j := 49) rfl)).1 kk11
  refine ok_putrF (pc' := 60) i87_57 o87 pr87_39 kk12 rfl (fun g13 n13 z13 r13 e13 o13 s13 => ?_)
  have a13 := nx0 a12 n13
  have b13 := z13.trans b12
  refine ok_aloadn (pc' := 61) i87_60 rfl rfl <| ?_
  refine ok_newF (r := (O + 73)) (sl := 2) (pc' := 64) i87_61 o87 ck0_43 (by decide) rfl a13 rfl (fun g14 M14 n14 z14 k14 s14 m14 q14 => ?_)
  have a14 : 100 + gN g14 = (O + 74) := nx a13 n14 rfl
  have b14 : gS g14 = gS g + 2847 := sx b13 z14 rfl
  refine ok_dup (pc' := 65) i87_64 rfl rfl <| ok_aloadn (pc' := 66) i87_65 rfl rfl <| ?_
  have kk13 : gK g13 O = 0 := Eq.trans (congrFun e13.1 O) kk12
  have kk14 : gK g14 O = 0 := Eq.trans (s14 O (nb (B := O) (i := 0) (j := 73) rfl)).1 kk13
  refine ok_getfr (r := (O + 38)) (pc' := 69) i87_66 o87 gr0_32 kk14 (Eq.trans (congrFun (s14 O (nb (B := O) (i := 0) (j := 73) rfl)).2.2 7) (Eq.trans (o13 7 (by decide)) (Eq.trans (congrFun (s12 O (lb (B := O) (i := 0) (j := 49) rfl)).2.2 7) (Eq.trans (congrFun (s11 O (nb (B := O) (i := 0) (j := 49) rfl)).2.2 7) r10)))) rfl <| ok_aloadn (pc' := 70) i87_69 rfl rfl <| ok_getfr (r := (O + 49)) (pc' := 73) i87_70 o87 gr0_39 kk14 (Eq.trans (congrFun (s14 O (nb (B := O) (i := 0) (j := 73) rfl)).2.2 8) r13) rfl <| ?_
  refine ok_cc i87_73 rfl (cl_i o87 (Or.inl m0_45) na32 rfl rfl (bt rfl) (bt rfl) rfl (by rw [k14.1]; decide)) ln32 (pd32 (aR (O + 73)) (aR (O + 38)) (aR (O + 49))) <| (Ok.deep (t32 (W := (O + 73)) (P := (O + 38)) (B := (O + 49)) a14 k14.1 (fun i => m14 i)) (Nat.le_of_ble_eq_true rfl)).mono (fun o9 g15 M15 p15 => ?_)
  obtain ⟨rfl, n15, z15, h15a, s15, q15, m15⟩ := p15
  refine kt_0 (pc' := 76) rfl <| ?_
  have a15 : 100 + gN g15 = (O + 74) := nx a14 n15 rfl
  have b15 : gS g15 = gS g + 2847 := sx b14 z15 rfl
  have kk15 : gK g15 O = 0 := Eq.trans (s15 O (lb (B := O) (i := 0) (j := 73) rfl)).1 kk14
  refine ok_putrF (pc' := 79) i87_76 o87 pr87_48 kk15 rfl (fun g16 n16 z16 r16 e16 o16 s16 => ?_)
  have a16 := nx0 a15 n16
  have b16 := z16.trans b15
  refine ok_aloadn (pc' := 80) i87_79 rfl rfl <| ?_
  refine ok_newF (r := (O + 74)) (sl := 4) (pc' := 83) i87_80 o87 ck0_52 (by decide) rfl a16 rfl (fun g17 M17 n17 z17 k17 s17 m17 q17 => ?_)
  have a17 : 100 + gN g17 = (O + 75) := nx a16 n17 rfl
  have b17 : gS g17 = gS g + 2851 := sx b16 z17 rfl
  refine ok_dup (pc' := 84) i87_83 rfl rfl <| ok_aloadn (pc' := 85) i87_84 rfl rfl <| ?_
  have kk16 : gK g16 O = 0 := Eq.trans (congrFun e16.1 O) kk15
  have kk17 : gK g17 O = 0 := Eq.trans (s17 O (nb (B := O) (i := 0) (j := 74) rfl)).1 kk16
  refine ok_getfr (r := (O + 38)) (pc' := 88) i87_85 o87 gr0_32 kk17 (Eq.trans (congrFun (s17 O (nb (B := O) (i := 0) (j := 74) rfl)).2.2 7) (Eq.trans (o16 7 (by decide)) (Eq.trans (congrFun (s15 O (lb (B := O) (i := 0) (j := 73) rfl)).2.2 7) (Eq.trans (congrFun (s14 O (nb (B := O) (i := 0) (j := 73) rfl)).2.2 7) (Eq.trans (o13 7 (by decide)) (Eq.trans (congrFun (s12 O (lb (B := O) (i := 0) (j := 49) rfl)).2.2 7) (Eq.trans (congrFun (s11 O (nb (B := O) (i := 0) (j := 49) rfl)).2.2 7) r10))))))) rfl <| ok_aloadn (pc' := 89) i87_88 rfl rfl <| ok_getfr (r := (O + 49)) (pc' := 92) i87_89 o87 gr0_39 kk17 (Eq.trans (congrFun (s17 O (nb (B := O) (i := 0) (j := 74) rfl)).2.2 8) (Eq.trans (o16 8 (by decide)) (Eq.trans (congrFun (s15 O (lb (B := O) (i := 0) (j := 73) rfl)).2.2 8) (Eq.trans (congrFun (s14 O (nb (B := O) (i := 0) (j := 73) rfl)).2.2 8) r13)))) rfl <| ?_
  refine ok_cc i87_92 rfl (cl_i o87 (Or.inl m0_54) na52 rfl rfl (bt rfl) (bt rfl) rfl (by rw [k17.1]; decide)) ln52 (pd52 (aR (O + 74)) (aR (O + 38)) (aR (O + 49))) <| (Ok.deep (t52 (O := O) a17 k17.1 (fun i => m17 i)) (Nat.le_of_ble_eq_true rfl)).mono (fun o9 g18 M18 p18 => ?_)
  obtain ⟨rfl, n18, z18, h18a, h18b, h18c, s18, q18, m18⟩ := p18
  refine kt_0 (pc' := 95) rfl <| ?_
  have a18 : 100 + gN g18 = (O + 100) := nx a17 n18 rfl
  have b18 : gS g18 = gS g + 3859 := sx b17 z18 rfl
  have kk18 : gK g18 O = 0 := Eq.trans (s18 O (lb (B := O) (i := 0) (j := 74) rfl)).1 kk17
  refine ok_putrF (pc' := 98) i87_95 o87 pr87_55 kk18 rfl (fun g19 n19 z19 r19 e19 o19 s19 => ?_)
  have a19 := nx0 a18 n19
  have b19 := z19.trans b18
  refine ok_aloadn (pc' := 99) i87_98 rfl rfl <| ?_
  refine ok_newF (r := (O + 100)) (sl := 4) (pc' := 102) i87_99 o87 ck0_59 (by decide) rfl a19 rfl (fun g20 M20 n20 z20 k20 s20 m20 q20 => ?_)
  have a20 : 100 + gN g20 = (O + 101) := nx a19 n20 rfl
  have b20 : gS g20 = gS g + 3863 := sx b19 z20 rfl
  refine ok_dup (pc' := 103) i87_102 rfl rfl <| ok_aloadn (pc' := 104) i87_103 rfl rfl <| ?_
  have kk19 : gK g19 O = 0 := Eq.trans (congrFun e19.1 O) kk18
  have kk20 : gK g20 O = 0 := Eq.trans (s20 O (nb (B := O) (i := 0) (j := 100) rfl)).1 kk19
  refine ok_getfr (r := (O + 49)) (pc' := 107) i87_104 o87 gr0_39 kk20 (Eq.trans (congrFun (s20 O (nb (B := O) (i := 0) (j := 100) rfl)).2.2 8) (Eq.trans (o19 8 (by decide)) (Eq.trans (congrFun (s18 O (lb (B := O) (i := 0) (j := 74) rfl)).2.2 8) (Eq.trans (congrFun (s17 O (nb (B := O) (i := 0) (j := 74) rfl)).2.2 8) (Eq.trans (o16 8 (by decide)) (Eq.trans (congrFun (s15 O (lb (B := O) (i := 0) (j := 73) rfl)).2.2 8) (Eq.trans (congrFun (s14 O (nb (B := O) (i := 0) (j := 73) rfl)).2.2 8) r13))))))) rfl <| ?_
  refine ok_cc i87_107 rfl (cl_i o87 (Or.inl m0_61) na59 rfl rfl (bt rfl) (bt rfl) rfl (by rw [k20.1]; decide)) ln59 (pd59 (aR (O + 100)) (aR (O + 49))) <| (Ok.deep (t59 (O := O) a20 k20.1 (fun i => m20 i)) (Nat.le_of_ble_eq_true rfl)).mono (fun o9 g21 M21 p21 => ?_)
  obtain ⟨rfl, n21, z21, h21a, s21, q21, m21⟩ := p21
  refine kt_0 (pc' := 110) rfl <| ?_
  have a21 : 100 + gN g21 = (O + 102) := nx a20 n21 rfl
  have b21 : gS g21 = gS g + 4073 := sx b20 z21 rfl
  have kk21 : gK g21 O = 0 := Eq.trans (s21 O (lb (B := O) (i := 0) (j := 100) rfl)).1 kk20
  refine ok_putrF (pc' := 113) i87_110 o87 pr87_64 kk21 rfl (fun g22 n22 z22 r22 e22 o22 s22 => ?_)
  have a22 := nx0 a21 n22
  have b22 := z22.trans b21
  refine ok_aloadn (pc' := 114) i87_113 rfl rfl <| ?_
  refine ok_newF (r := (O + 102)) (sl := 3) (pc' := 117) i87_114 o87 ck0_68 (by decide) rfl a22 rfl (fun g23 M23 n23 z23 k23 s23 m23 q23 => ?_)
  have a23 : 100 + gN g23 = (O + 103) := nx a22 n23 rfl
  have b23 : gS g23 = gS g + 4076 := sx b22 z23 rfl
  refine ok_dup (pc' := 118) i87_117 rfl rfl <| ?_
  refine ok_cc i87_118 rfl (cl_i o87 (Or.inl m0_70) na63 rfl rfl (bt rfl) (bt rfl) rfl (by rw [k23.1]; decide)) ln63 (pd63 (aR (O + 102))) <| (Ok.deep (t63 (O := O) a23 k23.1 (fun i => m23 i)) (Nat.le_of_ble_eq_true rfl)).mono (fun o9 g24 M24 p24 => ?_)
  obtain ⟨rfl, n24, z24, h24a, h24b, s24, q24, m24⟩ := p24
  refine kt_0 (pc' := 121) rfl <| ?_
  have a24 : 100 + gN g24 = (O + 296) := nx a23 n24 rfl
  have b24 : gS g24 = gS g + 12132 := sx b23 z24 rfl
  have kk22 : gK g22 O = 0 := Eq.trans (congrFun e22.1 O) kk21
  have kk23 : gK g23 O = 0 := Eq.trans (s23 O (nb (B := O) (i := 0) (j := 102) rfl)).1 kk22
  have kk24 : gK g24 O = 0 := Eq.trans (s24 O (lb (B := O) (i := 0) (j := 102) rfl)).1 kk23
  refine ok_putrF (pc' := 124) i87_121 o87 pr87_71 kk24 rfl (fun g25 n25 z25 r25 e25 o25 s25 => ?_)
  have a25 := nx0 a24 n25
  have b25 := z25.trans b24
  refine ok_aloadn (pc' := 125) i87_124 rfl rfl <| ok_iconst (pc' := 126) i87_125 rfl <| ?_
  refine ok_anewF (ci := 5) (kd := 26) (r := (O + 296)) (ln := 2) (pc' := 129) i87_126 o87 ck0_36 rfl (by decide) rfl (by decide) a25 rfl (fun g26 M26 n26 z26 k26 s26 m26 q26 => ?_)
  have a26 : 100 + gN g26 = (O + 297) := nx a25 n26 rfl
  have b26 : gS g26 = gS g + 12134 := sx b25 z26 rfl
  have kk25 : gK g25 O = 0 := Eq.trans (congrFun e25.1 O) kk24
  have kk26 : gK g26 O = 0 := Eq.trans (s26 O (nb (B := O) (i := 0) (j := 296) rfl)).1 kk25
  refine ok_putrF (pc' := 132) i87_129 o87 pr87_75 kk26 rfl (fun g27 n27 z27 r27 e27 o27 s27 => ?_)
  have a27 := nx0 a26 n27
  have b27 := z27.trans b26
  refine ok_iconst (pc' := 133) i87_132 rfl <| ok_istoren (pc' := 134) (ls' := [aR O, aI 0]) i87_133 (bt rfl) rfl rfl <| ok_iloadn (pc' := 135) i87_134 rfl rfl <| ok_iconst (pc' := 136) i87_135 rfl <| ok_kc0 (pc1 := 158) (pc2 := 139) i87_136 (by decide) rfl rfl <| ok_aloadn (pc' := 140) i87_139 rfl rfl <| ?_
  have kk27 : gK g27 O = 0 := Eq.trans (congrFun e27.1 O) kk26
  refine ok_getfr (r := (O + 296)) (pc' := 143) i87_140 o87 gr0_75 kk27 r27 rfl <| ok_iloadn (pc' := 144) i87_143 rfl rfl <| ?_
  refine ok_newF (r := (O + 297)) (sl := 10) (pc' := 147) i87_144 o87 ck0_36 (by decide) rfl a27 rfl (fun g28 M28 n28 z28 k28 s28 m28 q28 => ?_)
  have a28 : 100 + gN g28 = (O + 298) := nx a27 n28 rfl
  have b28 : gS g28 = gS g + 12144 := sx b27 z28 rfl
  refine ok_dup (pc' := 148) i87_147 rfl rfl <| ?_
  refine ok_cc i87_148 rfl (cl_i o87 (Or.inr m0_38) na14 rfl rfl (bt rfl) (bt rfl) rfl (by rw [k28.1]; decide)) ln14 (pd14 (aR (O + 297))) <| (Ok.deep (t14 (B := (O + 297)) a28 k28.1 k28.2 (fun i => m28 i)) (Nat.le_of_ble_eq_true rfl)).mono (fun o9 g29 M29 p29 => ?_)
  obtain ⟨rfl, n29, z29, h29a, s29, q29, m29⟩ := p29
  refine kt_0 (pc' := 151) rfl <| ?_
  have a29 : 100 + gN g29 = (O + 321) := nx a28 n29 rfl
  have b29 : gS g29 = gS g + 13140 := sx b28 z29 rfl
  refine ok_aastF (pc' := 152) i87_151 (Or.inl ⟨(Eq.trans (s29 (O + 296) (lb (B := O) (i := 296) (j := 297) rfl)).1 (Eq.trans (s28 (O + 296) (nb (B := O) (i := 296) (j := 297) rfl)).1 (Eq.trans (s27 (O + 296) (nb (B := O) (i := 296) (j := 0) rfl)).1 k26.1))), (ShState_k0 h29a)⟩) (by rw [(Eq.trans (s29 (O + 296) (lb (B := O) (i := 296) (j := 297) rfl)).2.1 (Eq.trans (s28 (O + 296) (nb (B := O) (i := 296) (j := 297) rfl)).2.1 (Eq.trans (s27 (O + 296) (nb (B := O) (i := 296) (j := 0) rfl)).2.1 k26.2)))]; decide) rfl (fun g30 n30 z30 r30 e30 o30 s30 => ?_)
  have a30 := nx0 a29 n30
  have b30 := z30.trans b29
  refine ok_iinc (pc' := 155) (v := 1) (ls' := [aR O, aI 1]) i87_152 rfl rfl rfl rfl <| ok_goto (pc' := 134) i87_155 rfl <| ok_iloadn (pc' := 135) i87_134 rfl rfl <| ok_iconst (pc' := 136) i87_135 rfl <| ok_kc0 (pc1 := 158) (pc2 := 139) i87_136 (by decide) rfl rfl <| ok_aloadn (pc' := 140) i87_139 rfl rfl <| ?_
  have kk28 : gK g28 O = 0 := Eq.trans (s28 O (nb (B := O) (i := 0) (j := 297) rfl)).1 kk27
  have kk29 : gK g29 O = 0 := Eq.trans (s29 O (lb (B := O) (i := 0) (j := 297) rfl)).1 kk28
  have kk30 : gK g30 O = 0 := Eq.trans (s30 O (nb (B := O) (i := 0) (j := 296) rfl)).1 kk29
  refine ok_getfr (r := (O + 296)) (pc' := 143) i87_140 o87 gr0_75 kk30 (Eq.trans (congrFun (s30 O (nb (B := O) (i := 0) (j := 296) rfl)).2.2 13) (Eq.trans (congrFun (s29 O (lb (B := O) (i := 0) (j := 297) rfl)).2.2 13) (Eq.trans (congrFun (s28 O (nb (B := O) (i := 0) (j := 297) rfl)).2.2 13) r27))) rfl <| ok_iloadn (pc' := 144) i87_143 rfl rfl <| ?_
  refine ok_newF (r := (O + 321)) (sl := 10) (pc' := 147) i87_144 o87 ck0_36 (by decide) rfl a30 rfl (fun g31 M31 n31 z31 k31 s31 m31 q31 => ?_)
  have a31 : 100 + gN g31 = (O + 322) := nx a30 n31 rfl
  have b31 : gS g31 = gS g + 13150 := sx b30 z31 rfl
  refine ok_dup (pc' := 148) i87_147 rfl rfl <| ?_
  refine ok_cc i87_148 rfl (cl_i o87 (Or.inr m0_38) na14 rfl rfl (bt rfl) (bt rfl) rfl (by rw [k31.1]; decide)) ln14 (pd14 (aR (O + 321))) <| (Ok.deep (t14 (B := (O + 321)) a31 k31.1 k31.2 (fun i => m31 i)) (Nat.le_of_ble_eq_true rfl)).mono (fun o9 g32 M32 p32 => ?_)
  obtain ⟨rfl, n32, z32, h32a, s32, q32, m32⟩ := p32
  refine kt_0 (pc' := 151) rfl <| ?_
  have a32 : 100 + gN g32 = (O + 345) := nx a31 n32 rfl
  have b32 : gS g32 = gS g + 14146 := sx b31 z32 rfl
  refine ok_aastF (pc' := 152) i87_151 (Or.inl ⟨(Eq.trans (s32 (O + 296) (lb (B := O) (i := 296) (j := 321) rfl)).1 (Eq.trans (s31 (O + 296) (nb (B := O) (i := 296) (j := 321) rfl)).1 (Eq.trans (congrFun e30.1 (O + 296)) (Eq.trans (s29 (O + 296) (lb (B := O) (i := 296) (j := 297) rfl)).1 (Eq.trans (s28 (O + 296) (nb (B := O) (i := 296) (j := 297) rfl)).1 (Eq.trans (s27 (O + 296) (nb (B := O) (i := 296) (j := 0) rfl)).1 k26.1)))))), (ShState_k0 h32a)⟩) (by rw [(Eq.trans (s32 (O + 296) (lb (B := O) (i := 296) (j := 321) rfl)).2.1 (Eq.trans (s31 (O + 296) (nb (B := O) (i := 296) (j := 321) rfl)).2.1 (Eq.trans (congrFun e30.2 (O + 296)) (Eq.trans (s29 (O + 296) (lb (B := O) (i := 296) (j := 297) rfl)).2.1 (Eq.trans (s28 (O + 296) (nb (B := O) (i := 296) (j := 297) rfl)).2.1 (Eq.trans (s27 (O + 296) (nb (B := O) (i := 296) (j := 0) rfl)).2.1 k26.2))))))]; decide) rfl (fun g33 n33 z33 r33 e33 o33 s33 => ?_)
  have a33 := nx0 a32 n33
  have b33 := z33.trans b32
  refine ok_iinc (pc' := 155) (v := 2) (ls' := [aR O, aI 2]) i87_152 rfl rfl rfl rfl <| ok_goto (pc' := 134) i87_155 rfl <| ok_iloadn (pc' := 135) i87_134 rfl rfl <| ok_iconst (pc' := 136) i87_135 rfl <| ok_kc1 (pc1 := 158) (pc2 := 139) i87_136 (by decide) rfl rfl <| ok_aloadn (pc' := 159) i87_158 rfl rfl <| ok_iconst (pc' := 160) i87_159 rfl <| ?_
  refine ok_newarrF (r := (O + 345)) (ln := 2) (kd := 22) (pc' := 162) i87_160 rfl (by decide) rfl (by decide) a33 rfl (fun g34 M34 n34 z34 k34 s34 m34 q34 => ?_)
  have a34 : 100 + gN g34 = (O + 346) := nx a33 n34 rfl
  have b34 : gS g34 = gS g + 14148 := sx b33 z34 rfl
  have kk31 : gK g31 O = 0 := Eq.trans (s31 O (nb (B := O) (i := 0) (j := 321) rfl)).1 kk30
  have kk32 : gK g32 O = 0 := Eq.trans (s32 O (lb (B := O) (i := 0) (j := 321) rfl)).1 kk31
  have kk33 : gK g33 O = 0 := Eq.trans (s33 O (nb (B := O) (i := 0) (j := 296) rfl)).1 kk32
  have kk34 : gK g34 O = 0 := Eq.trans (s34 O (nb (B := O) (i := 0) (j := 345) rfl)).1 kk33
  refine ok_putrF (pc' := 165) i87_162 o87 pr87_79 kk34 rfl (fun g35 n35 z35 r35 e35 o35 s35 => ?_)
  have a35 := nx0 a34 n35
  have b35 := z35.trans b34
  refine ok_aloadn (pc' := 166) i87_165 rfl rfl <| ?_
  refine ok_newF (r := (O + 346)) (sl := 2) (pc' := 169) i87_166 o87 ck0_83 (by decide) rfl a35 rfl (fun g36 M36 n36 z36 k36 s36 m36 q36 => ?_)
  have a36 : 100 + gN g36 = (O + 347) := nx a35 n36 rfl
  have b36 : gS g36 = gS g + 14150 := sx b35 z36 rfl
  refine ok_dup (pc' := 170) i87_169 rfl rfl <| ?_
  refine ok_cc i87_170 rfl (cl_i o87 (Or.inr m0_85) na28 rfl rfl (bt rfl) (bt rfl) rfl (by rw [k36.1]; decide)) ln28 (pd28 (aR (O + 346))) <| (Ok.deep (t28 (O := O) a36 k36.1 (fun i => m36 i)) (Nat.le_of_ble_eq_true rfl)).mono (fun o9 g37 M37 p37 => ?_)
  obtain ⟨rfl, n37, z37, h37a, s37, q37, m37⟩ := p37
  refine kt_0 (pc' := 173) rfl <| ?_
  have a37 : 100 + gN g37 = (O + 348) := nx a36 n37 rfl
  have b37 : gS g37 = gS g + 14470 := sx b36 z37 rfl
  have kk35 : gK g35 O = 0 := Eq.trans (congrFun e35.1 O) kk34
  have kk36 : gK g36 O = 0 := Eq.trans (s36 O (nb (B := O) (i := 0) (j := 346) rfl)).1 kk35
  have kk37 : gK g37 O = 0 := Eq.trans (s37 O (lb (B := O) (i := 0) (j := 346) rfl)).1 kk36
  refine ok_putrF (pc' := 176) i87_173 o87 pr87_86 kk37 rfl (fun g38 n38 z38 r38 e38 o38 s38 => ?_)
  have a38 := nx0 a37 n38
  have b38 := z38.trans b37
  refine ok_vret i87_176 rt87 <| ?_
  have kk38 : gK g38 O = 0 := Eq.trans (congrFun e38.1 O) kk37
  have v38_ : ∀ c : Nat, O < c → c < (O + 348) → c ≠ O + 296 → SG g38 g38 c := fun _ _ _ _ => SG.rfl
  have w38_ : ∀ c : Nat, O < c → c < (O + 348) → M37 c = M37 c := fun _ _ _ => rfl
  have r38_ : ∀ j : Int, j ≤ 15 → gR g38 O j = gR g38 O j := fun _ _ => rfl
  have v37_ : ∀ c : Nat, O < c → c < (O + 348) → c ≠ O + 296 → SG g37 g38 c := fun c h0 h1 h2 => SG.trans (s38 c (Nat.ne_of_gt h0)) (v38_ c h0 h1 h2)
  have w37_ : ∀ c : Nat, O < c → c < (O + 348) → M37 c = M37 c := fun c h0 h1 => w38_ c h0 h1
  have r37_ : ∀ j : Int, j ≤ 14 → gR g38 O j = gR g37 O j := fun j h => (r38_ j (Int.le_trans h (by decide))).trans (o38 j (Int.ne_of_lt (Int.lt_of_le_of_lt h (by decide))))
  have v35_ : ∀ c : Nat, O < c → c < (O + 346) → c ≠ O + 296 → SG g35 g38 c := fun c h0 h1 h2 => SG.trans (SG.trans (s36 c (Nat.ne_of_lt h1)) (s37 c h1)) (v37_ c h0 (Nat.lt_of_lt_of_le h1 (leb (B := O) (i := 346) (j := 348) rfl)) h2)
  have w35_ : ∀ c : Nat, O < c → c < (O + 346) → M37 c = M34 c := fun c h0 h1 => ((w37_ c h0 (Nat.lt_of_lt_of_le h1 (leb (B := O) (i := 346) (j := 348) rfl))).trans (q37 c h1)).trans (q36 c (Nat.ne_of_lt h1))
  have r35_ : ∀ j : Int, j ≤ 14 → gR g38 O j = gR g35 O j := fun j h => ((r37_ j h).trans (congrFun (s37 O (lb (B := O) (i := 0) (j := 346) rfl)).2.2 j)).trans (congrFun (s36 O (nb (B := O) (i := 0) (j := 346) rfl)).2.2 j)
  have v34_ : ∀ c : Nat, O < c → c < (O + 346) → c ≠ O + 296 → SG g34 g38 c := fun c h0 h1 h2 => SG.trans (s35 c (Nat.ne_of_gt h0)) (v35_ c h0 h1 h2)
  have w34_ : ∀ c : Nat, O < c → c < (O + 346) → M37 c = M34 c := fun c h0 h1 => w35_ c h0 h1
  have r34_ : ∀ j : Int, j ≤ 13 → gR g38 O j = gR g34 O j := fun j h => (r35_ j (Int.le_trans h (by decide))).trans (o35 j (Int.ne_of_lt (Int.lt_of_le_of_lt h (by decide))))
  have v33_ : ∀ c : Nat, O < c → c < (O + 345) → c ≠ O + 296 → SG g33 g38 c := fun c h0 h1 h2 => SG.trans (s34 c (Nat.ne_of_lt h1)) (v34_ c h0 (Nat.lt_of_lt_of_le h1 (leb (B := O) (i := 345) (j := 346) rfl)) h2)
  have w33_ : ∀ c : Nat, O < c → c < (O + 345) → M37 c = M32 c := fun c h0 h1 => (w34_ c h0 (Nat.lt_of_lt_of_le h1 (leb (B := O) (i := 345) (j := 346) rfl))).trans (q34 c (Nat.ne_of_lt h1))
  have r33_ : ∀ j : Int, j ≤ 13 → gR g38 O j = gR g33 O j := fun j h => (r34_ j h).trans (congrFun (s34 O (nb (B := O) (i := 0) (j := 345) rfl)).2.2 j)
  have v32_ : ∀ c : Nat, O < c → c < (O + 345) → c ≠ O + 296 → SG g32 g38 c := fun c h0 h1 h2 => SG.trans (s33 c h2) (v33_ c h0 h1 h2)
  have w32_ : ∀ c : Nat, O < c → c < (O + 345) → M37 c = M32 c := fun c h0 h1 => w33_ c h0 h1
  have r32_ : ∀ j : Int, j ≤ 13 → gR g38 O j = gR g32 O j := fun j h => (r33_ j h).trans (congrFun (s33 O (nb (B := O) (i := 0) (j := 296) rfl)).2.2 j)
  have v30_ : ∀ c : Nat, O < c → c < (O + 321) → c ≠ O + 296 → SG g30 g38 c := fun c h0 h1 h2 => SG.trans (SG.trans (s31 c (Nat.ne_of_lt h1)) (s32 c h1)) (v32_ c h0 (Nat.lt_of_lt_of_le h1 (leb (B := O) (i := 321) (j := 345) rfl)) h2)
  have w30_ : ∀ c : Nat, O < c → c < (O + 321) → M37 c = M29 c := fun c h0 h1 => ((w32_ c h0 (Nat.lt_of_lt_of_le h1 (leb (B := O) (i := 321) (j := 345) rfl))).trans (q32 c h1)).trans (q31 c (Nat.ne_of_lt h1))
  have r30_ : ∀ j : Int, j ≤ 13 → gR g38 O j = gR g30 O j := fun j h => ((r32_ j h).trans (congrFun (s32 O (lb (B := O) (i := 0) (j := 321) rfl)).2.2 j)).trans (congrFun (s31 O (nb (B := O) (i := 0) (j := 321) rfl)).2.2 j)
  have v29_ : ∀ c : Nat, O < c → c < (O + 321) → c ≠ O + 296 → SG g29 g38 c := fun c h0 h1 h2 => SG.trans (s30 c h2) (v30_ c h0 h1 h2)
  have w29_ : ∀ c : Nat, O < c → c < (O + 321) → M37 c = M29 c := fun c h0 h1 => w30_ c h0 h1
  have r29_ : ∀ j : Int, j ≤ 13 → gR g38 O j = gR g29 O j := fun j h => (r30_ j h).trans (congrFun (s30 O (nb (B := O) (i := 0) (j := 296) rfl)).2.2 j)
  have v27_ : ∀ c : Nat, O < c → c < (O + 297) → c ≠ O + 296 → SG g27 g38 c := fun c h0 h1 h2 => SG.trans (SG.trans (s28 c (Nat.ne_of_lt h1)) (s29 c h1)) (v29_ c h0 (Nat.lt_of_lt_of_le h1 (leb (B := O) (i := 297) (j := 321) rfl)) h2)
  have w27_ : ∀ c : Nat, O < c → c < (O + 297) → M37 c = M26 c := fun c h0 h1 => ((w29_ c h0 (Nat.lt_of_lt_of_le h1 (leb (B := O) (i := 297) (j := 321) rfl))).trans (q29 c h1)).trans (q28 c (Nat.ne_of_lt h1))
  have r27_ : ∀ j : Int, j ≤ 13 → gR g38 O j = gR g27 O j := fun j h => ((r29_ j h).trans (congrFun (s29 O (lb (B := O) (i := 0) (j := 297) rfl)).2.2 j)).trans (congrFun (s28 O (nb (B := O) (i := 0) (j := 297) rfl)).2.2 j)
  have v26_ : ∀ c : Nat, O < c → c < (O + 297) → c ≠ O + 296 → SG g26 g38 c := fun c h0 h1 h2 => SG.trans (s27 c (Nat.ne_of_gt h0)) (v27_ c h0 h1 h2)
  have w26_ : ∀ c : Nat, O < c → c < (O + 297) → M37 c = M26 c := fun c h0 h1 => w27_ c h0 h1
  have r26_ : ∀ j : Int, j ≤ 12 → gR g38 O j = gR g26 O j := fun j h => (r27_ j (Int.le_trans h (by decide))).trans (o27 j (Int.ne_of_lt (Int.lt_of_le_of_lt h (by decide))))
  have v25_ : ∀ c : Nat, O < c → c < (O + 296) → c ≠ O + 296 → SG g25 g38 c := fun c h0 h1 h2 => SG.trans (s26 c (Nat.ne_of_lt h1)) (v26_ c h0 (Nat.lt_of_lt_of_le h1 (leb (B := O) (i := 296) (j := 297) rfl)) h2)
  have w25_ : ∀ c : Nat, O < c → c < (O + 296) → M37 c = M24 c := fun c h0 h1 => (w26_ c h0 (Nat.lt_of_lt_of_le h1 (leb (B := O) (i := 296) (j := 297) rfl))).trans (q26 c (Nat.ne_of_lt h1))
  have r25_ : ∀ j : Int, j ≤ 12 → gR g38 O j = gR g25 O j := fun j h => (r26_ j h).trans (congrFun (s26 O (nb (B := O) (i := 0) (j := 296) rfl)).2.2 j)
  have v24_ : ∀ c : Nat, O < c → c < (O + 296) → c ≠ O + 296 → SG g24 g38 c := fun c h0 h1 h2 => SG.trans (s25 c (Nat.ne_of_gt h0)) (v25_ c h0 h1 h2)
  have w24_ : ∀ c : Nat, O < c → c < (O + 296) → M37 c = M24 c := fun c h0 h1 => w25_ c h0 h1
  have r24_ : ∀ j : Int, j ≤ 11 → gR g38 O j = gR g24 O j := fun j h => (r25_ j (Int.le_trans h (by decide))).trans (o25 j (Int.ne_of_lt (Int.lt_of_le_of_lt h (by decide))))
  have v22_ : ∀ c : Nat, O < c → c < (O + 102) → c ≠ O + 296 → SG g22 g38 c := fun c h0 h1 h2 => SG.trans (SG.trans (s23 c (Nat.ne_of_lt h1)) (s24 c h1)) (v24_ c h0 (Nat.lt_of_lt_of_le h1 (leb (B := O) (i := 102) (j := 296) rfl)) h2)
  have w22_ : ∀ c : Nat, O < c → c < (O + 102) → M37 c = M21 c := fun c h0 h1 => ((w24_ c h0 (Nat.lt_of_lt_of_le h1 (leb (B := O) (i := 102) (j := 296) rfl))).trans (q24 c h1)).trans (q23 c (Nat.ne_of_lt h1))
  have r22_ : ∀ j : Int, j ≤ 11 → gR g38 O j = gR g22 O j := fun j h => ((r24_ j h).trans (congrFun (s24 O (lb (B := O) (i := 0) (j := 102) rfl)).2.2 j)).trans (congrFun (s23 O (nb (B := O) (i := 0) (j := 102) rfl)).2.2 j)
  have v21_ : ∀ c : Nat, O < c → c < (O + 102) → c ≠ O + 296 → SG g21 g38 c := fun c h0 h1 h2 => SG.trans (s22 c (Nat.ne_of_gt h0)) (v22_ c h0 h1 h2)
  have w21_ : ∀ c : Nat, O < c → c < (O + 102) → M37 c = M21 c := fun c h0 h1 => w22_ c h0 h1
  have r21_ : ∀ j : Int, j ≤ 10 → gR g38 O j = gR g21 O j := fun j h => (r22_ j (Int.le_trans h (by decide))).trans (o22 j (Int.ne_of_lt (Int.lt_of_le_of_lt h (by decide))))
  have v19_ : ∀ c : Nat, O < c → c < (O + 100) → c ≠ O + 296 → SG g19 g38 c := fun c h0 h1 h2 => SG.trans (SG.trans (s20 c (Nat.ne_of_lt h1)) (s21 c h1)) (v21_ c h0 (Nat.lt_of_lt_of_le h1 (leb (B := O) (i := 100) (j := 102) rfl)) h2)
  have w19_ : ∀ c : Nat, O < c → c < (O + 100) → M37 c = M18 c := fun c h0 h1 => ((w21_ c h0 (Nat.lt_of_lt_of_le h1 (leb (B := O) (i := 100) (j := 102) rfl))).trans (q21 c h1)).trans (q20 c (Nat.ne_of_lt h1))
  have r19_ : ∀ j : Int, j ≤ 10 → gR g38 O j = gR g19 O j := fun j h => ((r21_ j h).trans (congrFun (s21 O (lb (B := O) (i := 0) (j := 100) rfl)).2.2 j)).trans (congrFun (s20 O (nb (B := O) (i := 0) (j := 100) rfl)).2.2 j)
  have v18_ : ∀ c : Nat, O < c → c < (O + 100) → c ≠ O + 296 → SG g18 g38 c := fun c h0 h1 h2 => SG.trans (s19 c (Nat.ne_of_gt h0)) (v19_ c h0 h1 h2)
  have w18_ : ∀ c : Nat, O < c → c < (O + 100) → M37 c = M18 c := fun c h0 h1 => w19_ c h0 h1
  have r18_ : ∀ j : Int, j ≤ 9 → gR g38 O j = gR g18 O j := fun j h => (r19_ j (Int.le_trans h (by decide))).trans (o19 j (Int.ne_of_lt (Int.lt_of_le_of_lt h (by decide))))
  have v16_ : ∀ c : Nat, O < c → c < (O + 74) → c ≠ O + 296 → SG g16 g38 c := fun c h0 h1 h2 => SG.trans (SG.trans (s17 c (Nat.ne_of_lt h1)) (s18 c h1)) (v18_ c h0 (Nat.lt_of_lt_of_le h1 (leb (B := O) (i := 74) (j := 100) rfl)) h2)
  have w16_ : ∀ c : Nat, O < c → c < (O + 74) → M37 c = M15 c := fun c h0 h1 => ((w18_ c h0 (Nat.lt_of_lt_of_le h1 (leb (B := O) (i := 74) (j := 100) rfl))).trans (q18 c h1)).trans (q17 c (Nat.ne_of_lt h1))
  have r16_ : ∀ j : Int, j ≤ 9 → gR g38 O j = gR g16 O j := fun j h => ((r18_ j h).trans (congrFun (s18 O (lb (B := O) (i := 0) (j := 74) rfl)).2.2 j)).trans (congrFun (s17 O (nb (B := O) (i := 0) (j := 74) rfl)).2.2 j)
  have v15_ : ∀ c : Nat, O < c → c < (O + 74) → c ≠ O + 296 → SG g15 g38 c := fun c h0 h1 h2 => SG.trans (s16 c (Nat.ne_of_gt h0)) (v16_ c h0 h1 h2)
  have w15_ : ∀ c : Nat, O < c → c < (O + 74) → M37 c = M15 c := fun c h0 h1 => w16_ c h0 h1
  have r15_ : ∀ j : Int, j ≤ 8 → gR g38 O j = gR g15 O j := fun j h => (r16_ j (Int.le_trans h (by decide))).trans (o16 j (Int.ne_of_lt (Int.lt_of_le_of_lt h (by decide))))
  have v13_ : ∀ c : Nat, O < c → c < (O + 73) → c ≠ O + 296 → SG g13 g38 c := fun c h0 h1 h2 => SG.trans (SG.trans (s14 c (Nat.ne_of_lt h1)) (s15 c h1)) (v15_ c h0 (Nat.lt_of_lt_of_le h1 (leb (B := O) (i := 73) (j := 74) rfl)) h2)
  have w13_ : ∀ c : Nat, O < c → c < (O + 73) → M37 c = M12 c := fun c h0 h1 => ((w15_ c h0 (Nat.lt_of_lt_of_le h1 (leb (B := O) (i := 73) (j := 74) rfl))).trans (q15 c h1)).trans (q14 c (Nat.ne_of_lt h1))
  have r13_ : ∀ j : Int, j ≤ 8 → gR g38 O j = gR g13 O j := fun j h => ((r15_ j h).trans (congrFun (s15 O (lb (B := O) (i := 0) (j := 73) rfl)).2.2 j)).trans (congrFun (s14 O (nb (B := O) (i := 0) (j := 73) rfl)).2.2 j)
  have v12_ : ∀ c : Nat, O < c → c < (O + 73) → c ≠ O + 296 → SG g12 g38 c := fun c h0 h1 h2 => SG.trans (s13 c (Nat.ne_of_gt h0)) (v13_ c h0 h1 h2)
  have w12_ : ∀ c : Nat, O < c → c < (O + 73) → M37 c = M12 c := fun c h0 h1 => w13_ c h0 h1
  have r12_ : ∀ j : Int, j ≤ 7 → gR g38 O j = gR g12 O j := fun j h => (r13_ j (Int.le_trans h (by decide))).trans (o13 j (Int.ne_of_lt (Int.lt_of_le_of_lt h (by decide))))
  have v10_ : ∀ c : Nat, O < c → c < (O + 49) → c ≠ O + 296 → SG g10 g38 c := fun c h0 h1 h2 => SG.trans (SG.trans (s11 c (Nat.ne_of_lt h1)) (s12 c h1)) (v12_ c h0 (Nat.lt_of_lt_of_le h1 (leb (B := O) (i := 49) (j := 73) rfl)) h2)
  have w10_ : ∀ c : Nat, O < c → c < (O + 49) → M37 c = M9 c := fun c h0 h1 => ((w12_ c h0 (Nat.lt_of_lt_of_le h1 (leb (B := O) (i := 49) (j := 73) rfl))).trans (q12 c h1)).trans (q11 c (Nat.ne_of_lt h1))
  have r10_ : ∀ j : Int, j ≤ 7 → gR g38 O j = gR g10 O j := fun j h => ((r12_ j h).trans (congrFun (s12 O (lb (B := O) (i := 0) (j := 49) rfl)).2.2 j)).trans (congrFun (s11 O (nb (B := O) (i := 0) (j := 49) rfl)).2.2 j)
  have v9_ : ∀ c : Nat, O < c → c < (O + 49) → c ≠ O + 296 → SG g9 g38 c := fun c h0 h1 h2 => SG.trans (s10 c (Nat.ne_of_gt h0)) (v10_ c h0 h1 h2)
  have w9_ : ∀ c : Nat, O < c → c < (O + 49) → M37 c = M9 c := fun c h0 h1 => w10_ c h0 h1
  have r9_ : ∀ j : Int, j ≤ 2 → gR g38 O j = gR g9 O j := fun j h => (r10_ j (Int.le_trans h (by decide))).trans (o10 j (Int.ne_of_lt (Int.lt_of_le_of_lt h (by decide))))
  have v7_ : ∀ c : Nat, O < c → c < (O + 38) → c ≠ O + 296 → SG g5 g38 c := fun c h0 h1 h2 => SG.trans (SG.trans (s8 c (Nat.ne_of_lt h1)) (s9 c h1)) (v9_ c h0 (Nat.lt_of_lt_of_le h1 (leb (B := O) (i := 38) (j := 49) rfl)) h2)
  have w7_ : ∀ c : Nat, O < c → c < (O + 38) → M37 c = M7 c := fun c h0 h1 => ((w9_ c h0 (Nat.lt_of_lt_of_le h1 (leb (B := O) (i := 38) (j := 49) rfl))).trans (q9 c h1)).trans (q8 c (Nat.ne_of_lt h1))
  have r7_ : ∀ j : Int, j ≤ 2 → gR g38 O j = gR g5 O j := fun j h => ((r9_ j h).trans (congrFun (s9 O (lb (B := O) (i := 0) (j := 38) rfl)).2.2 j)).trans (congrFun (s8 O (nb (B := O) (i := 0) (j := 38) rfl)).2.2 j)
  have v6_ : ∀ c : Nat, O < c → c < (O + 38) → c ≠ O + 296 → SG g5 g38 c := fun c h0 h1 h2 => v7_ c h0 h1 h2
  have w6_ : ∀ c : Nat, O < c → c < (O + 38) → M37 c = M6 c := fun c h0 h1 => (w7_ c h0 h1).trans ((congrFun q7 c).trans (up2_na (Nat.ne_of_gt h0)))
  have r6_ : ∀ j : Int, j ≤ 2 → gR g38 O j = gR g5 O j := fun j h => r7_ j h
  have v5_ : ∀ c : Nat, O < c → c < (O + 38) → c ≠ O + 296 → SG g5 g38 c := fun c h0 h1 h2 => v6_ c h0 h1 h2
  have w5_ : ∀ c : Nat, O < c → c < (O + 38) → M37 c = M4 c := fun c h0 h1 => (w6_ c h0 h1).trans ((congrFun q6 c).trans (up2_na (Nat.ne_of_gt h0)))
  have r5_ : ∀ j : Int, j ≤ 2 → gR g38 O j = gR g5 O j := fun j h => r6_ j h
  have v4_ : ∀ c : Nat, O < c → c < (O + 38) → c ≠ O + 296 → SG g4 g38 c := fun c h0 h1 h2 => SG.trans (s5 c (Nat.ne_of_gt h0)) (v5_ c h0 h1 h2)
  have w4_ : ∀ c : Nat, O < c → c < (O + 38) → M37 c = M4 c := fun c h0 h1 => w5_ c h0 h1
  have r4_ : ∀ j : Int, j ≤ 0 → gR g38 O j = gR g4 O j := fun j h => (r5_ j (Int.le_trans h (by decide))).trans (o5 j (Int.ne_of_lt (Int.lt_of_le_of_lt h (by decide))))
  have v2_ : ∀ c : Nat, O < c → c < (O + 2) → c ≠ O + 296 → SG g2 g38 c := fun c h0 h1 h2 => SG.trans (SG.trans (s3 c (Nat.ne_of_lt h1)) (s4 c h1)) (v4_ c h0 (Nat.lt_of_lt_of_le h1 (leb (B := O) (i := 2) (j := 38) rfl)) h2)
  have w2_ : ∀ c : Nat, O < c → c < (O + 2) → M37 c = M1 c := fun c h0 h1 => ((w4_ c h0 (Nat.lt_of_lt_of_le h1 (leb (B := O) (i := 2) (j := 38) rfl))).trans (q4 c h1)).trans (q3 c (Nat.ne_of_lt h1))
  have r2_ : ∀ j : Int, j ≤ 0 → gR g38 O j = gR g2 O j := fun j h => ((r4_ j h).trans (congrFun (s4 O (lb (B := O) (i := 0) (j := 2) rfl)).2.2 j)).trans (congrFun (s3 O (nb (B := O) (i := 0) (j := 2) rfl)).2.2 j)
  have v1_ : ∀ c : Nat, O < c → c < (O + 2) → c ≠ O + 296 → SG g1 g38 c := fun c h0 h1 h2 => SG.trans (s2 c (Nat.ne_of_gt h0)) (v2_ c h0 h1 h2)
  have w1_ : ∀ c : Nat, O < c → c < (O + 2) → M37 c = M1 c := fun c h0 h1 => w2_ c h0 h1
  have r1_ : ∀ j : Int, j ≤ -1 → gR g38 O j = gR g1 O j := fun j h => (r2_ j (Int.le_trans h (by decide))).trans (o2 j (Int.ne_of_lt (Int.lt_of_le_of_lt h (by decide))))
  refine ⟨rfl, nf (a := 1) hN a38 rfl, b38, ?_, ?_, ?_, ?_, ?_, ?_, ?_, ?_, ?_, ?_, ?_, ?_, ?_, ?_, ?_, ?_, ?_, ?_, fun c hc => (SG.trans (SG.trans (SG.trans (SG.trans (SG.trans (SG.trans (SG.trans (SG.trans (SG.trans (SG.trans (SG.trans (SG.trans (SG.trans (SG.trans (SG.trans (SG.trans (SG.trans (SG.trans (SG.trans (SG.trans (SG.trans (SG.trans (SG.trans (SG.trans (SG.trans (SG.trans (SG.trans (SG.trans (SG.trans (SG.trans (SG.trans (SG.trans (SG.trans (SG.trans (SG.trans (s1 c (Nat.ne_of_lt (Nat.lt_of_lt_of_le hc (leb (B := O) (i := 0) (j := 1) rfl)))) (s2 c (Nat.ne_of_lt (Nat.lt_of_lt_of_le hc (leb (B := O) (i := 0) (j := 0) rfl))))) (s3 c (Nat.ne_of_lt (Nat.lt_of_lt_of_le hc (leb (B := O) (i := 0) (j := 2) rfl))))) (s4 c (Nat.lt_of_lt_of_le hc (leb (B := O) (i := 0) (j := 2) rfl)))) (s5 c (Nat.ne_of_lt (Nat.lt_of_lt_of_le hc (leb (B := O) (i := 0) (j := 0) rfl))))) (s8 c (Nat.ne_of_lt (Nat.lt_of_lt_of_le hc (leb (B := O) (i := 0) (j := 38) rfl))))) (s9 c (Nat.lt_of_lt_of_le hc (leb (B := O) (i := 0) (j := 38) rfl)))) (s10 c (Nat.ne_of_lt (Nat.lt_of_lt_of_le hc (leb (B := O) (i := 0) (j := 0) rfl))))) (s11 c (Nat.ne_of_lt (Nat.lt_of_lt_of_le hc (leb (B := O) (i := 0) (j := 49) rfl))))) (s12 c (Nat.lt_of_lt_of_le hc (leb (B := O) (i := 0) (j := 49) rfl)))) (s13 c (Nat.ne_of_lt (Nat.lt_of_lt_of_le hc (leb (B := O) (i := 0) (j := 0) rfl))))) (s14 c (Nat.ne_of_lt (Nat.lt_of_lt_of_le hc (leb (B := O) (i := 0) (j := 73) rfl))))) (s15 c (Nat.lt_of_lt_of_le hc (leb (B := O) (i := 0) (j := 73) rfl)))) (s16 c (Nat.ne_of_lt (Nat.lt_of_lt_of_le hc (leb (B := O) (i := 0) (j := 0) rfl))))) (s17 c (Nat.ne_of_lt (Nat.lt_of_lt_of_le hc (leb (B := O) (i := 0) (j := 74) rfl))))) (s18 c (Nat.lt_of_lt_of_le hc (leb (B := O) (i := 0) (j := 74) rfl)))) (s19 c (Nat.ne_of_lt (Nat.lt_of_lt_of_le hc (leb (B := O) (i := 0) (j := 0) rfl))))) (s20 c (Nat.ne_of_lt (Nat.lt_of_lt_of_le hc (leb (B := O) (i := 0) (j := 100) rfl))))) (s21 c (Nat.lt_of_lt_of_le hc (leb (B := O) (i := 0) (j := 100) rfl)))) (s22 c (Nat.ne_of_lt (Nat.lt_of_lt_of_le hc (leb (B := O) (i := 0) (j := 0) rfl))))) (s23 c (Nat.ne_of_lt (Nat.lt_of_lt_of_le hc (leb (B := O) (i := 0) (j := 102) rfl))))) (s24 c (Nat.lt_of_lt_of_le hc (leb (B := O) (i := 0) (j := 102) rfl)))) (s25 c (Nat.ne_of_lt (Nat.lt_of_lt_of_le hc (leb (B := O) (i := 0) (j := 0) rfl))))) (s26 c (Nat.ne_of_lt (Nat.lt_of_lt_of_le hc (leb (B := O) (i := 0) (j := 296) rfl))))) (s27 c (Nat.ne_of_lt (Nat.lt_of_lt_of_le hc (leb (B := O) (i := 0) (j := 0) rfl))))) (s28 c (Nat.ne_of_lt (Nat.lt_of_lt_of_le hc (leb (B := O) (i := 0) (j := 297) rfl))))) (s29 c (Nat.lt_of_lt_of_le hc (leb (B := O) (i := 0) (j := 297) rfl)))) (s30 c (Nat.ne_of_lt (Nat.lt_of_lt_of_le hc (leb (B := O) (i := 0) (j := 296) rfl))))) (s31 c (Nat.ne_of_lt (Nat.lt_of_lt_of_le hc (leb (B := O) (i := 0) (j := 321) rfl))))) (s32 c (Nat.lt_of_lt_of_le hc (leb (B := O) (i := 0) (j := 321) rfl)))) (s33 c (Nat.ne_of_lt (Nat.lt_of_lt_of_le hc (leb (B := O) (i := 0) (j := 296) rfl))))) (s34 c (Nat.ne_of_lt (Nat.lt_of_lt_of_le hc (leb (B := O) (i := 0) (j := 345) rfl))))) (s35 c (Nat.ne_of_lt (Nat.lt_of_lt_of_le hc (leb (B := O) (i := 0) (j := 0) rfl))))) (s36 c (Nat.ne_of_lt (Nat.lt_of_lt_of_le hc (leb (B := O) (i := 0) (j := 346) rfl))))) (s37 c (Nat.lt_of_lt_of_le hc (leb (B := O) (i := 0) (j := 346) rfl)))) (s38 c (Nat.ne_of_lt (Nat.lt_of_lt_of_le hc (leb (B := O) (i := 0) (j := 0) rfl))))), fun c hc => by rw [q37 c (Nat.lt_of_lt_of_le hc (leb (B := O) (i := 0) (j := 346) rfl)), q36 c (Nat.ne_of_lt (Nat.lt_of_lt_of_le hc (leb (B := O) (i := 0) (j := 346) rfl))), q34 c (Nat.ne_of_lt (Nat.lt_of_lt_of_le hc (leb (B := O) (i := 0) (j := 345) rfl))), q32 c (Nat.lt_of_lt_of_le hc (leb (B := O) (i := 0) (j := 321) rfl)), q31 c (Nat.ne_of_lt (Nat.lt_of_lt_of_le hc (leb (B := O) (i := 0) (j := 321) rfl))), q29 c (Nat.lt_of_lt_of_le hc (leb (B := O) (i := 0) (j := 297) rfl)), q28 c (Nat.ne_of_lt (Nat.lt_of_lt_of_le hc (leb (B := O) (i := 0) (j := 297) rfl))), q26 c (Nat.ne_of_lt (Nat.lt_of_lt_of_le hc (leb (B := O) (i := 0) (j := 296) rfl))), q24 c (Nat.lt_of_lt_of_le hc (leb (B := O) (i := 0) (j := 102) rfl)), q23 c (Nat.ne_of_lt (Nat.lt_of_lt_of_le hc (leb (B := O) (i := 0) (j := 102) rfl))), q21 c (Nat.lt_of_lt_of_le hc (leb (B := O) (i := 0) (j := 100) rfl)), q20 c (Nat.ne_of_lt (Nat.lt_of_lt_of_le hc (leb (B := O) (i := 0) (j := 100) rfl))), q18 c (Nat.lt_of_lt_of_le hc (leb (B := O) (i := 0) (j := 74) rfl)), q17 c (Nat.ne_of_lt (Nat.lt_of_lt_of_le hc (leb (B := O) (i := 0) (j := 74) rfl))), q15 c (Nat.lt_of_lt_of_le hc (leb (B := O) (i := 0) (j := 73) rfl)), q14 c (Nat.ne_of_lt (Nat.lt_of_lt_of_le hc (leb (B := O) (i := 0) (j := 73) rfl))), q12 c (Nat.lt_of_lt_of_le hc (leb (B := O) (i := 0) (j := 49) rfl)), q11 c (Nat.ne_of_lt (Nat.lt_of_lt_of_le hc (leb (B := O) (i := 0) (j := 49) rfl))), q9 c (Nat.lt_of_lt_of_le hc (leb (B := O) (i := 0) (j := 38) rfl)), q8 c (Nat.ne_of_lt (Nat.lt_of_lt_of_le hc (leb (B := O) (i := 0) (j := 38) rfl))), q7, up2_na (a := O) (Nat.ne_of_lt (Nat.lt_of_lt_of_le hc (leb (B := O) (i := 0) (j := 0) rfl))), q6, up2_na (a := O) (Nat.ne_of_lt (Nat.lt_of_lt_of_le hc (leb (B := O) (i := 0) (j := 0) rfl))), q4 c (Nat.lt_of_lt_of_le hc (leb (B := O) (i := 0) (j := 2) rfl)), q3 c (Nat.ne_of_lt (Nat.lt_of_lt_of_le hc (leb (B := O) (i := 0) (j := 2) rfl))), q1 c (Nat.ne_of_lt (Nat.lt_of_lt_of_le hc (leb (B := O) (i := 0) (j := 1) rfl)))], fun c c0 c1 i x0 x1 => ?_⟩
  · refine ⟨kk38, ((v1_ (O + 1) (lb (B := O) (i := 0) (j := 1) rfl) (lb (B := O) (i := 1) (j := 2) rfl) (nb (B := O) (i := 1) (j := 296) rfl)).1.trans k1.1), ((v1_ (O + 1) (lb (B := O) (i := 0) (j := 1) rfl) (lb (B := O) (i := 1) (j := 2) rfl) (nb (B := O) (i := 1) (j := 296) rfl)).2.1.trans k1.2), (Eq.trans (s38 (O + 296) (nb (B := O) (i := 296) (j := 0) rfl)).1 (Eq.trans (s37 (O + 296) (lb (B := O) (i := 296) (j := 346) rfl)).1 (Eq.trans (s36 (O + 296) (nb (B := O) (i := 296) (j := 346) rfl)).1 (Eq.trans (s35 (O + 296) (nb (B := O) (i := 296) (j := 0) rfl)).1 (Eq.trans (s34 (O + 296) (nb (B := O) (i := 296) (j := 345) rfl)).1 (Eq.trans (congrFun e33.1 (O + 296)) (Eq.trans (s32 (O + 296) (lb (B := O) (i := 296) (j := 321) rfl)).1 (Eq.trans (s31 (O + 296) (nb (B := O) (i := 296) (j := 321) rfl)).1 (Eq.trans (congrFun e30.1 (O + 296)) (Eq.trans (s29 (O + 296) (lb (B := O) (i := 296) (j := 297) rfl)).1 (Eq.trans (s28 (O + 296) (nb (B := O) (i := 296) (j := 297) rfl)).1 (Eq.trans (s27 (O + 296) (nb (B := O) (i := 296) (j := 0) rfl)).1 k26.1)))))))))))), (Eq.trans (s38 (O + 296) (nb (B := O) (i := 296) (j := 0) rfl)).2.1 (Eq.trans (s37 (O + 296) (lb (B := O) (i := 296) (j := 346) rfl)).2.1 (Eq.trans (s36 (O + 296) (nb (B := O) (i := 296) (j := 346) rfl)).2.1 (Eq.trans (s35 (O + 296) (nb (B := O) (i := 296) (j := 0) rfl)).2.1 (Eq.trans (s34 (O + 296) (nb (B := O) (i := 296) (j := 345) rfl)).2.1 (Eq.trans (congrFun e33.2 (O + 296)) (Eq.trans (s32 (O + 296) (lb (B := O) (i := 296) (j := 321) rfl)).2.1 (Eq.trans (s31 (O + 296) (nb (B := O) (i := 296) (j := 321) rfl)).2.1 (Eq.trans (congrFun e30.2 (O + 296)) (Eq.trans (s29 (O + 296) (lb (B := O) (i := 296) (j := 297) rfl)).2.1 (Eq.trans (s28 (O + 296) (nb (B := O) (i := 296) (j := 297) rfl)).2.1 (Eq.trans (s27 (O + 296) (nb (B := O) (i := 296) (j := 0) rfl)).2.1 k26.2)))))))))))), ((v34_ (O + 345) (lb (B := O) (i := 0) (j := 345) rfl) (lb (B := O) (i := 345) (j := 346) rfl) (nb (B := O) (i := 345) (j := 296) rfl)).1.trans k34.1), ((v34_ (O + 345) (lb (B := O) (i := 0) (j := 345) rfl) (lb (B := O) (i := 345) (j := 346) rfl) (nb (B := O) (i := 345) (j := 296) rfl)).2.1.trans k34.2), ((r2_ 0 (by decide)).trans r2), ((r5_ 2 (by decide)).trans r5), ((r10_ 7 (by decide)).trans r10), ((r13_ 8 (by decide)).trans r13), ((r16_ 9 (by decide)).trans r16), ((r19_ 10 (by decide)).trans r19), ((r22_ 11 (by decide)).trans r22), ((r25_ 12 (by decide)).trans r25), ((r27_ 13 (by decide)).trans r27), ((r35_ 14 (by decide)).trans r35), ((r38_ 15 (by decide)).trans r38), fun j hj => ?_⟩
    rcases lt_2 hj with rfl | rfl
    · exact (Eq.trans (congrFun (s38 (O + 296) (nb (B := O) (i := 296) (j := 0) rfl)).2.2 0) (Eq.trans (congrFun (s37 (O + 296) (lb (B := O) (i := 296) (j := 346) rfl)).2.2 0) (Eq.trans (congrFun (s36 (O + 296) (nb (B := O) (i := 296) (j := 346) rfl)).2.2 0) (Eq.trans (congrFun (s35 (O + 296) (nb (B := O) (i := 296) (j := 0) rfl)).2.2 0) (Eq.trans (congrFun (s34 (O + 296) (nb (B := O) (i := 296) (j := 345) rfl)).2.2 0) (Eq.trans (o33 0 (by decide)) (Eq.trans (congrFun (s32 (O + 296) (lb (B := O) (i := 296) (j := 321) rfl)).2.2 0) (Eq.trans (congrFun (s31 (O + 296) (nb (B := O) (i := 296) (j := 321) rfl)).2.2 0) r30))))))))
    · exact (Eq.trans (congrFun (s38 (O + 296) (nb (B := O) (i := 296) (j := 0) rfl)).2.2 1) (Eq.trans (congrFun (s37 (O + 296) (lb (B := O) (i := 296) (j := 346) rfl)).2.2 1) (Eq.trans (congrFun (s36 (O + 296) (nb (B := O) (i := 296) (j := 346) rfl)).2.2 1) (Eq.trans (congrFun (s35 (O + 296) (nb (B := O) (i := 296) (j := 0) rfl)).2.2 1) (Eq.trans (congrFun (s34 (O + 296) (nb (B := O) (i := 296) (j := 345) rfl)).2.2 1) r33)))))
  · exact ShParser_fx h4a (fun c c0 c1 => v4_ c (Nat.lt_of_lt_of_le (lb (B := O) (i := 0) (j := 2) rfl) c0) (Nat.lt_of_lt_of_le c1 (leb (B := O) (i := 3) (j := 38) rfl)) (Nat.ne_of_lt (Nat.lt_of_lt_of_le c1 (leb (B := O) (i := 3) (j := 296) rfl))))
  · exact ⟨((v1_ (O + 1) (lb (B := O) (i := 0) (j := 1) rfl) (lb (B := O) (i := 1) (j := 2) rfl) (nb (B := O) (i := 1) (j := 296) rfl)).1.trans k1.1), ((v1_ (O + 1) (lb (B := O) (i := 0) (j := 1) rfl) (lb (B := O) (i := 1) (j := 2) rfl) (nb (B := O) (i := 1) (j := 296) rfl)).2.1.trans k1.2)⟩
  · exact ShPlan_fx h4b (fun c c0 c1 => v4_ c (Nat.lt_of_lt_of_le (lb (B := O) (i := 0) (j := 3) rfl) c0) (Nat.lt_of_lt_of_le c1 (leb (B := O) (i := 14) (j := 38) rfl)) (Nat.ne_of_lt (Nat.lt_of_lt_of_le c1 (leb (B := O) (i := 14) (j := 296) rfl))))
  · exact ShState_fx h4c (fun c c0 c1 => v4_ c (Nat.lt_of_lt_of_le (lb (B := O) (i := 0) (j := 14) rfl) c0) (Nat.lt_of_lt_of_le c1 (leb (B := O) (i := 38) (j := 38) rfl)) (Nat.ne_of_lt (Nat.lt_of_lt_of_le c1 (leb (B := O) (i := 38) (j := 296) rfl))))
  · exact ShPlan_fx h9a (fun c c0 c1 => v9_ c (Nat.lt_of_lt_of_le (lb (B := O) (i := 0) (j := 38) rfl) c0) (Nat.lt_of_lt_of_le c1 (leb (B := O) (i := 49) (j := 49) rfl)) (Nat.ne_of_lt (Nat.lt_of_lt_of_le c1 (leb (B := O) (i := 49) (j := 296) rfl))))
  · exact ShState_fx h12a (fun c c0 c1 => v12_ c (Nat.lt_of_lt_of_le (lb (B := O) (i := 0) (j := 49) rfl) c0) (Nat.lt_of_lt_of_le c1 (leb (B := O) (i := 73) (j := 73) rfl)) (Nat.ne_of_lt (Nat.lt_of_lt_of_le c1 (leb (B := O) (i := 73) (j := 296) rfl))))
  · exact ShWorks_fx h15a (fun c c0 c1 => v15_ c (Nat.lt_of_lt_of_le (lb (B := O) (i := 0) (j := 73) rfl) c0) (Nat.lt_of_lt_of_le c1 (leb (B := O) (i := 74) (j := 74) rfl)) (Nat.ne_of_lt (Nat.lt_of_lt_of_le c1 (leb (B := O) (i := 74) (j := 296) rfl))))
  · exact ShTrial_fx h18a (fun c c0 c1 => v18_ c (Nat.lt_of_lt_of_le (lb (B := O) (i := 0) (j := 74) rfl) c0) (Nat.lt_of_lt_of_le c1 (leb (B := O) (i := 75) (j := 100) rfl)) (Nat.ne_of_lt (Nat.lt_of_lt_of_le c1 (leb (B := O) (i := 75) (j := 296) rfl))))
  · exact ShState_fx h18b (fun c c0 c1 => v18_ c (Nat.lt_of_lt_of_le (lb (B := O) (i := 0) (j := 75) rfl) c0) (Nat.lt_of_lt_of_le c1 (leb (B := O) (i := 99) (j := 100) rfl)) (Nat.ne_of_lt (Nat.lt_of_lt_of_le c1 (leb (B := O) (i := 99) (j := 296) rfl))))
  · exact ShWorks_fx h18c (fun c c0 c1 => v18_ c (Nat.lt_of_lt_of_le (lb (B := O) (i := 0) (j := 99) rfl) c0) (Nat.lt_of_lt_of_le c1 (leb (B := O) (i := 100) (j := 100) rfl)) (Nat.ne_of_lt (Nat.lt_of_lt_of_le c1 (leb (B := O) (i := 100) (j := 296) rfl))))
  · exact ShPacking_fx h21a (fun c c0 c1 => v21_ c (Nat.lt_of_lt_of_le (lb (B := O) (i := 0) (j := 100) rfl) c0) (Nat.lt_of_lt_of_le c1 (leb (B := O) (i := 102) (j := 102) rfl)) (Nat.ne_of_lt (Nat.lt_of_lt_of_le c1 (leb (B := O) (i := 102) (j := 296) rfl))))
  · exact ShHist_fx h24a (fun c c0 c1 => v24_ c (Nat.lt_of_lt_of_le (lb (B := O) (i := 0) (j := 102) rfl) c0) (Nat.lt_of_lt_of_le c1 (leb (B := O) (i := 104) (j := 296) rfl)) (Nat.ne_of_lt (Nat.lt_of_lt_of_le c1 (leb (B := O) (i := 104) (j := 296) rfl))))
  · have hr : ∀ c : Nat, O + 104 ≤ c → c < O + 296 → SG g24 g38 c := fun c c0 c1 => v24_ c (Nat.lt_of_lt_of_le (lb (B := O) (i := 0) (j := 104) rfl) c0) (Nat.lt_of_lt_of_le c1 (leb (B := O) (i := 296) (j := 296) rfl)) (Nat.ne_of_lt (Nat.lt_of_lt_of_le c1 (leb (B := O) (i := 296) (j := 296) rfl)))
    exact st8_fx h24b hr
  · exact st2_fx (ShState_fx h29a (fun c c0 c1 => v29_ c (Nat.lt_of_lt_of_le (lb (B := O) (i := 0) (j := 297) rfl) c0) (Nat.lt_of_lt_of_le c1 (leb (B := O) (i := 321) (j := 321) rfl)) (Nat.ne_of_gt (Nat.lt_of_lt_of_le (lb (B := O) (i := 296) (j := 297) rfl) c0)))) (ShState_fx h32a (fun c c0 c1 => v32_ c (Nat.lt_of_lt_of_le (lb (B := O) (i := 0) (j := 321) rfl) c0) (Nat.lt_of_lt_of_le c1 (leb (B := O) (i := 345) (j := 345) rfl)) (Nat.ne_of_gt (Nat.lt_of_lt_of_le (lb (B := O) (i := 296) (j := 321) rfl) c0))))
  · exact ShText_fx h37a (fun c c0 c1 => v37_ c (Nat.lt_of_lt_of_le (lb (B := O) (i := 0) (j := 346) rfl) c0) (Nat.lt_of_lt_of_le c1 (leb (B := O) (i := 348) (j := 348) rfl)) (Nat.ne_of_gt (Nat.lt_of_lt_of_le (lb (B := O) (i := 296) (j := 346) rfl) c0)))
  · exact (by rw [q37 O (lb (B := O) (i := 0) (j := 346) rfl), q36 O (nb (B := O) (i := 0) (j := 346) rfl), q34 O (nb (B := O) (i := 0) (j := 345) rfl), q32 O (lb (B := O) (i := 0) (j := 321) rfl), q31 O (nb (B := O) (i := 0) (j := 321) rfl), q29 O (lb (B := O) (i := 0) (j := 297) rfl), q28 O (nb (B := O) (i := 0) (j := 297) rfl), q26 O (nb (B := O) (i := 0) (j := 296) rfl), q24 O (lb (B := O) (i := 0) (j := 102) rfl), q23 O (nb (B := O) (i := 0) (j := 102) rfl), q21 O (lb (B := O) (i := 0) (j := 100) rfl), q20 O (nb (B := O) (i := 0) (j := 100) rfl), q18 O (lb (B := O) (i := 0) (j := 74) rfl), q17 O (nb (B := O) (i := 0) (j := 74) rfl), q15 O (lb (B := O) (i := 0) (j := 73) rfl), q14 O (nb (B := O) (i := 0) (j := 73) rfl), q12 O (lb (B := O) (i := 0) (j := 49) rfl), q11 O (nb (B := O) (i := 0) (j := 49) rfl), q9 O (lb (B := O) (i := 0) (j := 38) rfl), q8 O (nb (B := O) (i := 0) (j := 38) rfl), q7, up2_rd, if_neg (fun h => absurd h.2 (by decide)), q6, up2_rd, if_pos ⟨rfl, rfl⟩])
  · exact (by rw [q37 O (lb (B := O) (i := 0) (j := 346) rfl), q36 O (nb (B := O) (i := 0) (j := 346) rfl), q34 O (nb (B := O) (i := 0) (j := 345) rfl), q32 O (lb (B := O) (i := 0) (j := 321) rfl), q31 O (nb (B := O) (i := 0) (j := 321) rfl), q29 O (lb (B := O) (i := 0) (j := 297) rfl), q28 O (nb (B := O) (i := 0) (j := 297) rfl), q26 O (nb (B := O) (i := 0) (j := 296) rfl), q24 O (lb (B := O) (i := 0) (j := 102) rfl), q23 O (nb (B := O) (i := 0) (j := 102) rfl), q21 O (lb (B := O) (i := 0) (j := 100) rfl), q20 O (nb (B := O) (i := 0) (j := 100) rfl), q18 O (lb (B := O) (i := 0) (j := 74) rfl), q17 O (nb (B := O) (i := 0) (j := 74) rfl), q15 O (lb (B := O) (i := 0) (j := 73) rfl), q14 O (nb (B := O) (i := 0) (j := 73) rfl), q12 O (lb (B := O) (i := 0) (j := 49) rfl), q11 O (nb (B := O) (i := 0) (j := 49) rfl), q9 O (lb (B := O) (i := 0) (j := 38) rfl), q8 O (nb (B := O) (i := 0) (j := 38) rfl), q7, up2_rd, if_pos ⟨rfl, rfl⟩])
  · rcases zs87 c0 c1 with h | h | h | h | h | h | h | h | h | h | h | h | h | h
    · rw [h] at x0 x1 ⊢; rw [q37 O (lb (B := O) (i := 0) (j := 346) rfl), q36 O (nb (B := O) (i := 0) (j := 346) rfl), q34 O (nb (B := O) (i := 0) (j := 345) rfl), q32 O (lb (B := O) (i := 0) (j := 321) rfl), q31 O (nb (B := O) (i := 0) (j := 321) rfl), q29 O (lb (B := O) (i := 0) (j := 297) rfl), q28 O (nb (B := O) (i := 0) (j := 297) rfl), q26 O (nb (B := O) (i := 0) (j := 296) rfl), q24 O (lb (B := O) (i := 0) (j := 102) rfl), q23 O (nb (B := O) (i := 0) (j := 102) rfl), q21 O (lb (B := O) (i := 0) (j := 100) rfl), q20 O (nb (B := O) (i := 0) (j := 100) rfl), q18 O (lb (B := O) (i := 0) (j := 74) rfl), q17 O (nb (B := O) (i := 0) (j := 74) rfl), q15 O (lb (B := O) (i := 0) (j := 73) rfl), q14 O (nb (B := O) (i := 0) (j := 73) rfl), q12 O (lb (B := O) (i := 0) (j := 49) rfl), q11 O (nb (B := O) (i := 0) (j := 49) rfl), q9 O (lb (B := O) (i := 0) (j := 38) rfl), q8 O (nb (B := O) (i := 0) (j := 38) rfl), q7, up2_rd, if_neg x1, q6, up2_rd, if_neg x0, q4 O (lb (B := O) (i := 0) (j := 2) rfl), q3 O (nb (B := O) (i := 0) (j := 2) rfl), q1 O (nb (B := O) (i := 0) (j := 1) rfl)]; exact hM i
    · subst h; exact (congrFun (w1_ (O + 1) (lb (B := O) (i := 0) (j := 1) rfl) (lb (B := O) (i := 1) (j := 2) rfl)) i).trans (m1 i)
    · exact (congrFun (w4_ c (Nat.lt_of_lt_of_le (lb (B := O) (i := 0) (j := 2) rfl) h.1) (Nat.lt_of_le_of_lt h.2 (lb (B := O) (i := 37) (j := 38) rfl))) i).trans (m4 c h.1 h.2 i)
    · exact (congrFun (w9_ c (Nat.lt_of_lt_of_le (lb (B := O) (i := 0) (j := 38) rfl) h.1) (Nat.lt_of_le_of_lt h.2 (lb (B := O) (i := 48) (j := 49) rfl))) i).trans (m9 c h.1 h.2 i)
    · exact (congrFun (w12_ c (Nat.lt_of_lt_of_le (lb (B := O) (i := 0) (j := 49) rfl) h.1) (Nat.lt_of_le_of_lt h.2 (lb (B := O) (i := 72) (j := 73) rfl))) i).trans (m12 c h.1 h.2 i)
    · exact (congrFun (w15_ c (Nat.lt_of_lt_of_le (lb (B := O) (i := 0) (j := 73) rfl) h.1) (Nat.lt_of_le_of_lt h.2 (lb (B := O) (i := 73) (j := 74) rfl))) i).trans (m15 c h.1 h.2 i)
    · exact (congrFun (w18_ c (Nat.lt_of_lt_of_le (lb (B := O) (i := 0) (j := 74) rfl) h.1) (Nat.lt_of_le_of_lt h.2 (lb (B := O) (i := 99) (j := 100) rfl))) i).trans (m18 c h.1 h.2 i)
    · exact (congrFun (w21_ c (Nat.lt_of_lt_of_le (lb (B := O) (i := 0) (j := 100) rfl) h.1) (Nat.lt_of_le_of_lt h.2 (lb (B := O) (i := 101) (j := 102) rfl))) i).trans (m21 c h.1 h.2 i)
    · exact (congrFun (w24_ c (Nat.lt_of_lt_of_le (lb (B := O) (i := 0) (j := 102) rfl) h.1) (Nat.lt_of_le_of_lt h.2 (lb (B := O) (i := 295) (j := 296) rfl))) i).trans (m24 c h.1 h.2 i)
    · subst h; exact (congrFun (w26_ (O + 296) (lb (B := O) (i := 0) (j := 296) rfl) (lb (B := O) (i := 296) (j := 297) rfl)) i).trans (m26 i)
    · exact (congrFun (w29_ c (Nat.lt_of_lt_of_le (lb (B := O) (i := 0) (j := 297) rfl) h.1) (Nat.lt_of_le_of_lt h.2 (lb (B := O) (i := 320) (j := 321) rfl))) i).trans (m29 c h.1 h.2 i)
    · exact (congrFun (w32_ c (Nat.lt_of_lt_of_le (lb (B := O) (i := 0) (j := 321) rfl) h.1) (Nat.lt_of_le_of_lt h.2 (lb (B := O) (i := 344) (j := 345) rfl))) i).trans (m32 c h.1 h.2 i)
    · subst h; exact (congrFun (w34_ (O + 345) (lb (B := O) (i := 0) (j := 345) rfl) (lb (B := O) (i := 345) (j := 346) rfl)) i).trans (m34 i)
    · exact (congrFun (w37_ c (Nat.lt_of_lt_of_le (lb (B := O) (i := 0) (j := 346) rfl) h.1) (Nat.lt_of_le_of_lt h.2 (lb (B := O) (i := 347) (j := 348) rfl))) i).trans (m37 c h.1 h.2 i)
