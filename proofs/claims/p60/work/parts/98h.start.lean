/-! THE YARD IS MADE (by program, wip/p60/gen) -/
theorem up2R_ax {R : Nat → Int → Nat} {a : Nat} {k y : Int} {v : Nat} : up2R R a k v a y = if y = k then v else R a y := by unfold up2R upR; rw [if_pos rfl]
section OK
variable {d mi pc pc' pc2 oc idx idx2 ci ln kd : Nat} {ls st : List AV} {g : AG} {M : AM} {Q : AO → AG → AM → Prop}
/-- a fresh thing becomes a field of the yard -/
theorem al_fr {g1 : AG} {M1 : AM} {sl : Nat} {j : Int} (h2 : 2 ≤ gN g) (n1 : gN g1 = gN g + 1) (z1 : gS g1 = gS g + sl) (s1 : ∀ c : Nat, c ≠ 100 + gN g → SG g g1 c) (q1 : ∀ c : Nat, c ≠ 100 + gN g → M1 c = M c) : Fr (fun c => c = 101) 1 sl g M (gN g1, gS g1, gK g1, gL g1, up2R (gR g1) 101 j (100 + gN g)) M1 ∧ (∀ y : Int, y ≠ j → gR (gN g1, gS g1, gK g1, gL g1, up2R (gR g1) 101 j (100 + gN g)) 101 y = gR g 101 y) ∧ gR (gN g1, gS g1, gK g1, gL g1, up2R (gR g1) 101 j (100 + gN g)) 101 j = 100 + gN g := by
  refine ⟨⟨by show gN g ≤ gN g1; omega, by show gN g1 ≤ gN g + 1; omega, by show gS g1 ≤ gS g + sl; omega, fun c hc => ⟨⟨(s1 c (by omega)).1, (s1 c (by omega)).2.1⟩, fun hn => ⟨?_, q1 c (by omega)⟩⟩⟩, fun y hy => ?_, ?_⟩
  · show up2R (gR g1) 101 j (100 + gN g) c = gR g c
    rw [up2R_na (show c ≠ 101 from hn)]
    exact (s1 c (by omega)).2.2
  · show up2R (gR g1) 101 j (100 + gN g) 101 y = gR g 101 y
    rw [up2R_ax, if_neg hy, (s1 101 (by omega)).2.2]
  · show up2R (gR g1) 101 j (100 + gN g) 101 j = _
    rw [up2R_ax, if_pos rfl]
theorem ok_aput {x : Int} {j : Nat} (h2 : 2 ≤ gN g) (hk : gK g 101 = 17) (hi : am_ins mi pc = some (.anewarray idx)) (ho : am_oc mi = oc) (hc : am_csk oc idx ci = true) (hkd : am_aar ci = kd) (h0 : kd ≠ 0) (hx : x = (ln : Int)) (hl : ln ≤ 100000) (hp : pc + 3 = pc') (hi2 : am_ins mi pc' = some (.putfield idx2)) (hf : am_pfr mi oc idx2 17 j = true) (hp2 : pc' + 3 = pc2) (k : ∀ (g2 : AG) (M2 : AM), Fr (fun c => c = 101) 1 ln g M g2 M2 → gN g2 = gN g + 1 → gR g2 101 (j : Int) = 100 + gN g → (∀ y : Int, y ≠ (j : Int) → gR g2 101 y = gR g 101 y) → (gK g2 (100 + gN g) = kd ∧ gL g2 (100 + gN g) = ln) → (∀ i : Int, M2 (100 + gN g) i = 0) → M2 101 = M 101 → Ok d mi pc2 ls st g2 M2 Q) : Ok d mi pc ls (aI x :: aR 101 :: st) g M Q := by
  refine ok_anewF hi ho hc hkd h0 hx hl rfl hp (fun g1 M1 n1 z1 k1 s1 m1 q1 => ?_)
  refine ok_putfr hi2 ho hf ((s1 101 (by omega)).1.trans hk) hp2 ?_
  have h := al_fr (g := g) (M := M) (M1 := M1) (j := (j : Int)) h2 n1 z1 s1 q1
  exact k _ _ h.1 n1 h.2.2 h.2.1 k1 m1 (q1 101 (by omega))
theorem ok_nput {x : Int} {j : Nat} (h2 : 2 ≤ gN g) (hk : gK g 101 = 17) (hi : am_ins mi pc = some (.newarray .int)) (ho : am_oc mi = oc) (hx : x = (ln : Int)) (hl : ln ≤ 100000) (hp : pc + 2 = pc') (hi2 : am_ins mi pc' = some (.putfield idx2)) (hf : am_pfr mi oc idx2 17 j = true) (hp2 : pc' + 3 = pc2) (k : ∀ (g2 : AG) (M2 : AM), Fr (fun c => c = 101) 1 ln g M g2 M2 → gN g2 = gN g + 1 → gR g2 101 (j : Int) = 100 + gN g → (∀ y : Int, y ≠ (j : Int) → gR g2 101 y = gR g 101 y) → (gK g2 (100 + gN g) = 20 ∧ gL g2 (100 + gN g) = ln) → (∀ i : Int, M2 (100 + gN g) i = 0) → M2 101 = M 101 → Ok d mi pc2 ls st g2 M2 Q) : Ok d mi pc ls (aI x :: aR 101 :: st) g M Q := by
  refine ok_newarrF (kd := 20) hi rfl (by decide) hx hl rfl hp (fun g1 M1 n1 z1 k1 s1 m1 q1 => ?_)
  refine ok_putfr hi2 ho hf ((s1 101 (by omega)).1.trans hk) hp2 ?_
  have h := al_fr (g := g) (M := M) (M1 := M1) (j := (j : Int)) h2 n1 z1 s1 q1
  exact k _ _ h.1 n1 h.2.2 h.2.1 k1 m1 (q1 101 (by omega))
theorem ok_pput {r : Nat} {j : Nat} (hk : gK g 101 = 17) (ho : am_oc mi = oc) (hi2 : am_ins mi pc = some (.putfield idx2)) (hf : am_pfr mi oc idx2 17 j = true) (hp2 : pc + 3 = pc2) (k : ∀ g2 : AG, Fr (fun c => c = 101) 0 0 g M g2 M → gN g2 = gN g → gR g2 101 (j : Int) = r → (∀ y : Int, y ≠ (j : Int) → gR g2 101 y = gR g 101 y) → Ok d mi pc2 ls st g2 M Q) : Ok d mi pc ls (aR r :: aR 101 :: st) g M Q := by
  refine ok_putfr hi2 ho hf hk hp2 ?_
  refine k _ ⟨Nat.le_refl _, Nat.le_refl _, Nat.le_refl _, fun c hc => ⟨⟨rfl, rfl⟩, fun hn => ⟨?_, rfl⟩⟩⟩ rfl ?_ (fun y hy => ?_)
  · show up2R (gR g) 101 (j : Int) r c = gR g c
    rw [up2R_na (show c ≠ 101 from hn)]
  · show up2R (gR g) 101 (j : Int) r 101 (j : Int) = r
    rw [up2R_ax, if_pos rfl]
  · show up2R (gR g) 101 (j : Int) r 101 y = gR g 101 y
    rw [up2R_ax, if_neg hy]
end OK
theorem nl181 : am_nL 181 = 2 := by decide +kernel
theorem pd181 : ∀ a0 a1 : AV, am_pad 181 [a0, a1] = [a0, a1] := by intros; unfold am_pad; rw [nl181]; rfl
theorem ln181 : 2 ≤ am_nL 181 := by rw [nl181]; decide
theorem na181 : am_na 181 = 1 := by decide +kernel
theorem m17_11 : am_mlk 17 11 2 181 = true := by decide +kernel
theorem ck17_7 : am_csk 17 7 18 = true := by decide +kernel
theorem ck17_20 : am_csk 17 20 20 = true := by decide +kernel
theorem pr195_14 : am_pfr 195 17 14 17 0 = true := by decide +kernel
theorem pr195_22 : am_pfr 195 17 22 17 1 = true := by decide +kernel
theorem pr195_26 : am_pfr 195 17 26 17 2 = true := by decide +kernel
theorem pr195_29 : am_pfr 195 17 29 17 3 = true := by decide +kernel
theorem pr195_34 : am_pfr 195 17 34 17 4 = true := by decide +kernel
theorem pr195_40 : am_pfr 195 17 40 17 5 = true := by decide +kernel
theorem pr195_44 : am_pfr 195 17 44 17 6 = true := by decide +kernel
theorem pr195_47 : am_pfr 195 17 47 17 7 = true := by decide +kernel
theorem cn17_9 : am_ct 17 9 = none := by decide +kernel
theorem sr17_9 : (am_sr 17 9).map (fun q => q.2.1) = some 26 := by decide +kernel
theorem m17_1 : am_mlk 17 1 5 0 = true := by decide +kernel
theorem w195_0 {g : AG} {M : AM} {L : Nat} {dd : Nat} {Q : AO → AG → AM → Prop} (hN : gN g = 2) (hS : gS g ≤ 40) (hK : gK g 101 = 17) (hM : ∀ i : Int, M 101 i = 0) (hD : Dr g M L 0) (hBS : BS g M) (K : ∀ (g1 : AG) (M1 : AM) (A : YA), YI g1 M1 L 0 (sayW t00 (stx 8) (stn 8)) A zro zro 103 26 60 900 → Ok (dd + 14) 195 78 [aR 101, aR 100, aU, aU, aU, aU, aU] [] g1 M1 Q) : Ok (dd + 14) 195 0 [aR 101, aR 100, aU, aU, aU, aU, aU] [] g M Q := by
  refine ok_aloadn (pc' := 1) i195_0 rfl rfl <| ok_objinit (pc' := 4) i195_1 o195 m17_1 (by rw [hK]; decide) (bt rfl) rfl <| ok_aloadn (pc' := 5) i195_4 rfl rfl <| ?_
  refine ok_nw (sl := 4) (pc' := 8) i195_5 o195 ck17_7 (by decide) (by decide) rfl (fun x1 g1 M1 hx1 hn1 hA1 e1 => ?_)
  obtain rfl : x1 = 102 := by omega
  refine ok_dup (pc' := 9) i195_8 rfl rfl <| ok_ldcz (pc' := 11) i195_9 o195 cn17_9 sr17_9 rfl <| ?_
  have hst := BS.str hBS (j := 8) (by decide)
  have hst1 : ShStr g1 26 (stn 8) := ShStr.fr hst.1 e1 (by decide) (fun e => e)
  refine ok_cc i195_11 rfl (cl_i o195 (Or.inl m17_11) na181 rfl rfl (bt rfl) (bt rfl) rfl (by rw [hA1.1]; decide)) ln181 (pd181 (aR 102) (aR 26)) <| (Ok.deep (t181 (m := 10) (tx := stx 8) hA1 rfl (by omega) (by omega) hst1 rfl (by decide) (by decide) (by decide) (fun i i0 i1 => ⟨by rw [e1.m0 (by omega)]; exact hst.2 i i0 i1, tb (P := fun i => 0 ≤ stx 8 i ∧ stx 8 i ≤ 127) (m := 10) (by decide) i i0 i1⟩)) (by omega)).mono (fun o9 g2 M2 p2 => ?_)
  obtain ⟨rfl, V, hV, hn2, hS2, e2⟩ := p2
  obtain rfl : V = 103 := by omega
  have hk2 : gK g2 101 = 17 := (e2.k (by omega)).trans ((e1.k (by omega)).trans hK)
  have hm2 : M2 101 = M 101 := (e2.m (by omega) (fun h => absurd h (by decide))).trans (e1.m0 (by omega))
  refine kt_0 (pc' := 14) rfl <| ok_pput (pc2 := 17) (j := 0) hk2 o195 i195_14 pr195_14 rfl (fun g3 f3 n3 r3 q3 => ?_)
  have hk3 : gK g3 101 = 17 := (f3.k (by omega)).trans hk2
  refine ok_aloadn (pc' := 18) i195_17 rfl rfl <| ok_iconst (pc' := 19) i195_18 rfl <| ?_
  refine ok_aput (ci := 20) (kd := 25) (ln := 4) (pc' := 22) (pc2 := 25) (j := 1) (by omega) hk3 i195_19 o195 ck17_20 rfl (by decide) rfl (by decide) rfl i195_22 pr195_22 rfl (fun g4 M4 f4 n4 r4 q4 k4 z4 m4 => ?_)
  obtain hr4 : 100 + gN g3 = 104 := by omega
  rw [hr4] at r4 k4 z4
  have hk4 : gK g4 101 = 17 := (f4.k (by omega)).trans hk3
  refine ok_aloadn (pc' := 26) i195_25 rfl rfl <| ok_bipush (v := 6) (pc' := 28) i195_26 rfl rfl <| ?_
  refine ok_aput (ci := 20) (kd := 25) (ln := 6) (pc' := 31) (pc2 := 34) (j := 2) (by omega) hk4 i195_28 o195 ck17_20 rfl (by decide) rfl (by decide) rfl i195_31 pr195_26 rfl (fun g5 M5 f5 n5 r5 q5 k5 z5 m5 => ?_)
  obtain hr5 : 100 + gN g4 = 105 := by omega
  rw [hr5] at r5 k5 z5
  have hk5 : gK g5 101 = 17 := (f5.k (by omega)).trans hk4
  refine ok_aloadn (pc' := 35) i195_34 rfl rfl <| ok_bipush (v := 60) (pc' := 37) i195_35 rfl rfl <| ?_
  refine ok_aput (ci := 20) (kd := 25) (ln := 60) (pc' := 40) (pc2 := 43) (j := 3) (by omega) hk5 i195_37 o195 ck17_20 rfl (by decide) rfl (by decide) rfl i195_40 pr195_29 rfl (fun g6 M6 f6 n6 r6 q6 k6 z6 m6 => ?_)
  obtain hr6 : 100 + gN g5 = 106 := by omega
  rw [hr6] at r6 k6 z6
  have hk6 : gK g6 101 = 17 := (f6.k (by omega)).trans hk5
  refine ok_aloadn (pc' := 44) i195_43 rfl rfl <| ok_bipush (v := 90) (pc' := 46) i195_44 rfl rfl <| ?_
  refine ok_aput (ci := 16) (kd := 23) (ln := 90) (pc' := 49) (pc2 := 52) (j := 4) (by omega) hk6 i195_46 o195 ck17_32 rfl (by decide) rfl (by decide) rfl i195_49 pr195_34 rfl (fun g7 M7 f7 n7 r7 q7 k7 z7 m7 => ?_)
  obtain hr7 : 100 + gN g6 = 107 := by omega
  rw [hr7] at r7 k7 z7
  have hk7 : gK g7 101 = 17 := (f7.k (by omega)).trans hk6
  refine ok_aloadn (pc' := 53) i195_52 rfl rfl <| ok_bipush (v := 16) (pc' := 55) i195_53 rfl rfl <| ?_
  refine ok_aput (ci := 15) (kd := 24) (ln := 16) (pc' := 58) (pc2 := 61) (j := 5) (by omega) hk7 i195_55 o195 ck17_38 rfl (by decide) rfl (by decide) rfl i195_58 pr195_40 rfl (fun g8 M8 f8 n8 r8 q8 k8 z8 m8 => ?_)
  obtain hr8 : 100 + gN g7 = 108 := by omega
  rw [hr8] at r8 k8 z8
  have hk8 : gK g8 101 = 17 := (f8.k (by omega)).trans hk7
  refine ok_aloadn (pc' := 62) i195_61 rfl rfl <| ok_sipush (v := 201) (pc' := 65) i195_62 rfl rfl <| ?_
  refine ok_nput (ln := 201) (pc' := 67) (pc2 := 70) (j := 6) (by omega) hk8 i195_65 o195 rfl (by decide) rfl i195_67 pr195_44 rfl (fun g9 M9 f9 n9 r9 q9 k9 z9 m9 => ?_)
  obtain hr9 : 100 + gN g8 = 109 := by omega
  rw [hr9] at r9 k9 z9
  have hk9 : gK g9 101 = 17 := (f9.k (by omega)).trans hk8
  refine ok_aloadn (pc' := 71) i195_70 rfl rfl <| ok_bipush (v := 8) (pc' := 73) i195_71 rfl rfl <| ?_
  refine ok_nput (ln := 8) (pc' := 75) (pc2 := 78) (j := 7) (by omega) hk9 i195_73 o195 rfl (by decide) rfl i195_75 pr195_47 rfl (fun g10 M10 f10 n10 r10 q10 k10 z10 m10 => ?_)
  obtain hr10 : 100 + gN g9 = 110 := by omega
  rw [hr10] at r10 k10 z10
  have hk10 : gK g10 101 = 17 := (f10.k (by omega)).trans hk9
  have E10 : Fr (fun c => c = 101) 0 0 g10 M10 g10 M10 := Fr.rfl
  have E9 := Fr.trans f10 E10
  have E8 := Fr.trans f9 E9
  have E7 := Fr.trans f8 E8
  have E6 := Fr.trans f7 E7
  have E5 := Fr.trans f6 E6
  have E4 := Fr.trans f5 E5
  have E3 := Fr.trans f4 E4
  have hM10 : M10 101 = M 101 := (m10.trans (m9.trans (m8.trans (m7.trans (m6.trans (m5.trans (m4.trans hm2)))))))
  have R1 : gR g10 101 1 = 104 := (q10 1 (by decide)).trans ((q9 1 (by decide)).trans ((q8 1 (by decide)).trans ((q7 1 (by decide)).trans ((q6 1 (by decide)).trans ((q5 1 (by decide)).trans (r4))))))
  have R2 : gR g10 101 2 = 105 := (q10 2 (by decide)).trans ((q9 2 (by decide)).trans ((q8 2 (by decide)).trans ((q7 2 (by decide)).trans ((q6 2 (by decide)).trans (r5)))))
  have R3 : gR g10 101 3 = 106 := (q10 3 (by decide)).trans ((q9 3 (by decide)).trans ((q8 3 (by decide)).trans ((q7 3 (by decide)).trans (r6))))
  have R4 : gR g10 101 4 = 107 := (q10 4 (by decide)).trans ((q9 4 (by decide)).trans ((q8 4 (by decide)).trans (r7)))
  have R5 : gR g10 101 5 = 108 := (q10 5 (by decide)).trans ((q9 5 (by decide)).trans (r8))
  have R6 : gR g10 101 6 = 109 := (q10 6 (by decide)).trans (r9)
  have R7 : gR g10 101 7 = 110 := r10
  have R0 : gR g10 101 0 = 102 := (q10 0 (by decide)).trans ((q9 0 (by decide)).trans ((q8 0 (by decide)).trans ((q7 0 (by decide)).trans ((q6 0 (by decide)).trans ((q5 0 (by decide)).trans ((q4 0 (by decide)).trans (r3)))))))
  have K104 := (E4.k (c := 104) (by omega)).trans k4.1
  have L104 := (E4.l (c := 104) (by omega)).trans k4.2
  have K105 := (E5.k (c := 105) (by omega)).trans k5.1
  have L105 := (E5.l (c := 105) (by omega)).trans k5.2
  have K106 := (E6.k (c := 106) (by omega)).trans k6.1
  have L106 := (E6.l (c := 106) (by omega)).trans k6.2
  have K107 := (E7.k (c := 107) (by omega)).trans k7.1
  have L107 := (E7.l (c := 107) (by omega)).trans k7.2
  have K108 := (E8.k (c := 108) (by omega)).trans k8.1
  have L108 := (E8.l (c := 108) (by omega)).trans k8.2
  have K109 := (E9.k (c := 109) (by omega)).trans k9.1
  have L109 := (E9.l (c := 109) (by omega)).trans k9.2
  have K110 := (E10.k (c := 110) (by omega)).trans k10.1
  have L110 := (E10.l (c := 110) (by omega)).trans k10.2
  have Z109 : M10 109 = M9 109 := E9.m (by omega) (by decide)
  have hz0 : ∀ j : Int, zro j = 0 := fun _ => rfl
  have hY : Yd g10 M10 OX (fun _ => 0, fun _ => 0, fun _ => 0, fun _ => 0) zro zro := by
    refine ⟨⟨by omega, by decide, hk10, K104, L104, K105, L105, K106, L106, K107, L107, K108, L108, K109, L109, K110, L110, R1, R2, R3, R4, R5, R6, R7, fun k k0 k1 => absurd (show k < 0 from k1) (by omega), fun k j k0 k1 => absurd (show k < 0 from k1) (by omega), fun k k0 k1 => absurd (show k < 0 from k1) (by omega), fun k j k0 k1 => absurd (show k < 0 from k1) (by omega), fun k k0 k1 => absurd (show k < 0 from k1) (by omega), fun k k0 k1 => absurd (show k < 0 from k1) (by omega), fun k k0 k1 => absurd (show k < 0 from k1) (by omega)⟩, ⟨?_, fun k k0 k1 => absurd (show k < 0 from k1) (by omega), fun k k0 k1 => absurd (show k < 0 from k1) (by omega), by rw [hM10]; exact hM 8, by rw [hM10]; exact hM 9, fun k k0 k1 => absurd (show k < 0 from k1) (by omega), fun k k0 k1 => absurd (show k < 0 from k1) (by omega)⟩, fun k k0 k1 => absurd (show k < 0 from k1) (by omega), by decide⟩
    intro c y z hc
    rcases hc with h1 | h1 | h1 | ⟨k, k0, k1, _⟩ | ⟨k, k0, k1, _⟩
    · rw [h1.1, hM10, hM y]; rfl
    · rw [h1.1, z10 y]; rfl
    · rw [h1.1, Z109, z9 y]; rfl
    · exact absurd (show k < 0 from k1) (by omega)
    · exact absurd (show k < 0 from k1) (by omega)
  have F3 := Fr.trans f3 E3
  have hSB := hS2.fr F3 (by decide) (by decide)
  have F1 := Fr.tr2 (Fr.trans e1 (Fr.rfl)) e2 (fun c c0 hc => by exfalso; have h9 : c = 102 := hc; omega)
  have hD2 : Dr g10 M10 L 0 := by
    obtain ⟨b1, b2, b3, b4, b5, b6⟩ := hD
    exact ⟨(F3.k (by omega)).trans ((F1.k (by omega)).trans b1), by rw [F3.r (by omega) (by decide), F1.r0 (by omega)]; exact b2, (F3.k (by omega)).trans ((F1.k (by omega)).trans b3), (F3.l (by omega)).trans ((F1.l (by omega)).trans b4), by rw [F3.m (by omega) (by decide), F1.m0 (by omega)]; exact b5, b6⟩
  have hB2 := (hBS.fr F1 (fun _ _ h => h)).fr F3 (fun c c0 h => by have h9 : c = 101 := h; omega)
  have H0 : YI g10 M10 L 0 (sayW t00 (stx 8) (stn 8)) (fun _ => 0, fun _ => 0, fun _ => 0, fun _ => 0) zro zro 103 26 60 900 := ⟨hY, hSB, hD2, hB2, R0, by decide, Or.inl rfl, by omega, by have h5 := F3.2.2.1; have h6 := F1.2.2.1; omega⟩
  exact K _ _ _ H0
