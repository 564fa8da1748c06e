/-! HISTORY: a change is kept (by program, wip/p60/gen) -/
theorem o64 : am_oc 64 = 1 := by decide +kernel
theorem gi1_18 : am_gfi 1 18 1 1 = true := by decide +kernel
theorem m1_22 : am_mlk 1 22 0 17 = true := by decide +kernel
theorem pi64_18 : am_pfi 64 1 18 1 1 = true := by decide +kernel
theorem gi1_26 : am_gfi 1 26 1 2 = true := by decide +kernel
theorem m1_29 : am_mlk 1 29 7 0 = true := by decide +kernel
theorem pi64_26 : am_pfi 64 1 26 1 2 = true := by decide +kernel
theorem rt64 : am_rt 64 = none := by decide +kernel
theorem na17 : am_na 17 = 1 := by decide +kernel
theorem nl17 : am_nL 17 = 3 := by decide +kernel
theorem pd17 : ∀ a0 a1 : AV, am_pad 17 [a0, a1] = [a0, a1, aU] := by intros; unfold am_pad; rw [nl17]; rfl
theorem ln17 : 2 ≤ am_nL 17 := by rw [nl17]; decide
theorem t64 {g : AG} {M : AM} {O : Nat} {q s : Int → Int} {b nx sz : Int} (hS202 : ShHist g (O + 102)) (hHi : ∀ j : Nat, j < 8 → ShState g (O + 104 + 24 * j)) (hS149 : ShState g (O + 49)) (hRA : RepS M (O + 49) s) (hV : Val b q s) (hQ : ValQ q) (hn1 : M (O + 102) 1 = nx) (hn0 : 0 ≤ nx ∧ nx < 8) (hz2 : M (O + 102) 2 = sz) (hz0 : 0 ≤ sz ∧ sz ≤ 8) :
    Ok 1 64 0 [aR (O + 102), aR (O + 49)] [] g M (Rt none g (fun M9 => (0 ≤ M9 (O + 102) 1 ∧ M9 (O + 102) 1 < 8) ∧ (0 ≤ M9 (O + 102) 2 ∧ M9 (O + 102) 2 ≤ 8) ∧ ∀ c : Nat, c ≠ O + 102 → (c < O + 104 ∨ O + 296 ≤ c) → M9 c = M c)) := by
  have hI : ShState g (O + 102 + 2 + 24 * (nx).toNat) := by
    have h := hHi (nx).toNat (by omega)
    rw [show O + 104 + 24 * (nx).toNat = O + 102 + 2 + 24 * (nx).toNat by omega] at h
    exact h
  refine ok_aloadn (pc' := 1) i64_0 rfl rfl <| ok_getfr (r := ((O + 102) + 1)) (pc' := 4) i64_1 o64 gr1_11 (ShHist_k0 hS202) (ShHist_r0 hS202) rfl <| ok_aloadn (pc' := 5) i64_4 rfl rfl <| ok_getfi (v := nx) (pc' := 8) i64_5 o64 gi1_18 (ShHist_k0 hS202) hn1 rfl <| ok_aaload (r := (O + 102 + 2 + 24 * (nx).toNat)) (pc' := 9) i64_8 (ShHist_k1 hS202) (by decide) (ShHist_l1 hS202) (by omega) (ShHist_ev1 hS202 (by omega) (by omega)) rfl <| ok_aloadn (pc' := 10) i64_9 rfl rfl <| ?_
  refine ok_cn0 (pc' := 13) (d0 := 0) i64_10 rfl (cl_v o64 m1_22 na17 rfl rfl (bt rfl) (bt rfl) rfl (by rw [ShState_k0 hI, o17])) ln17 (pd17 (aR (O + 102 + 2 + 24 * (nx).toNat)) (aR (O + 49))) (by omega) (t17 (B := (O + 102 + 2 + 24 * (nx).toNat)) (A := (O + 49)) hI hS149 hRA hV hQ (by omega)) rfl (fun M21 p22 => ?_)
  refine ok_aloadn (pc' := 14) i64_13 rfl rfl <| ok_aloadn (pc' := 15) i64_14 rfl rfl <| ok_getfi (v := nx) (pc' := 18) i64_15 o64 gi1_18 (ShHist_k0 hS202) (Eq.trans (congrFun (p22.2 (O + 102) (by omega)) 1) hn1) rfl <| ok_bipush (v := 7) (pc' := 20) i64_18 rfl rfl <| ?_
  refine ok_cne (pc1 := 27) (pc2 := 23) i64_20 (by omega) rfl rfl (fun h23 => ?_) (fun h23 => ?_)
  · refine ok_aloadn (pc' := 28) i64_27 rfl rfl <| ok_getfi (v := nx) (pc' := 31) i64_28 o64 gi1_18 (ShHist_k0 hS202) (Eq.trans (congrFun (p22.2 (O + 102) (by omega)) 1) hn1) rfl <| ok_iconst (pc' := 32) i64_31 rfl <| ok_iadd (v := (nx + 1)) (pc' := 33) i64_32 rfl rfl <| ok_putfj (kk := 1) (pc' := 36) i64_33 o64 pi64_18 (ShHist_k0 hS202) rfl rfl <| ok_aloadn (pc' := 37) i64_36 rfl rfl <| ok_aloadn (pc' := 38) i64_37 rfl rfl <| ok_getfi (v := sz) (pc' := 41) i64_38 o64 gi1_26 (ShHist_k0 hS202) (rd_ni (by decide) (Eq.trans (congrFun (p22.2 (O + 102) (by omega)) 2) hz2)) rfl <| ?_
    refine ok_iconst (pc' := 42) i64_41 rfl <| ok_iadd (v := (sz + 1)) (pc' := 43) i64_42 rfl rfl <| ok_bipush (v := 8) (pc' := 45) i64_43 rfl rfl <| ok_min (v := (min (sz + 1) 8)) (pc' := 48) i64_45 o64 m1_29 (by omega) (bt rfl) rfl rfl <| ?_
    have z301 : (min (sz + 1) 8) ≤ (sz + 1) ∧ (min (sz + 1) 8) ≤ 8 := by omega
    have z302 : 0 ≤ (min (sz + 1) 8) := by omega
    refine ok_putfj (kk := 2) (pc' := 51) i64_48 o64 pi64_26 (ShHist_k0 hS202) rfl rfl <| ok_vret i64_51 rt64 <| ?_
    refine ⟨rfl, rfl, ?_, ?_, fun c c1 c2 => ?_⟩
    · rw [up2_rd, if_neg (by omega), up2_rd, if_pos ⟨rfl, rfl⟩]; omega
    · rw [up2_rd, if_pos ⟨rfl, rfl⟩]; omega
    · rw [up2_na c1, up2_na c1]; exact p22.2 c (by omega)
  · refine ok_iconst (pc' := 24) i64_23 rfl <| ok_goto (pc' := 33) i64_24 rfl <| ok_putfj (kk := 1) (pc' := 36) i64_33 o64 pi64_18 (ShHist_k0 hS202) rfl rfl <| ok_aloadn (pc' := 37) i64_36 rfl rfl <| ok_aloadn (pc' := 38) i64_37 rfl rfl <| ok_getfi (v := sz) (pc' := 41) i64_38 o64 gi1_26 (ShHist_k0 hS202) (rd_ni (by decide) (Eq.trans (congrFun (p22.2 (O + 102) (by omega)) 2) hz2)) rfl <| ok_iconst (pc' := 42) i64_41 rfl <| ok_iadd (v := (sz + 1)) (pc' := 43) i64_42 rfl rfl <| ?_
    refine ok_bipush (v := 8) (pc' := 45) i64_43 rfl rfl <| ok_min (v := (min (sz + 1) 8)) (pc' := 48) i64_45 o64 m1_29 (by omega) (bt rfl) rfl rfl <| ?_
    have z303 : (min (sz + 1) 8) ≤ (sz + 1) ∧ (min (sz + 1) 8) ≤ 8 := by omega
    have z304 : 0 ≤ (min (sz + 1) 8) := by omega
    refine ok_putfj (kk := 2) (pc' := 51) i64_48 o64 pi64_26 (ShHist_k0 hS202) rfl rfl <| ok_vret i64_51 rt64 <| ?_
    refine ⟨rfl, rfl, ?_, ?_, fun c c1 c2 => ?_⟩
    · rw [up2_rd, if_neg (by omega), up2_rd, if_pos ⟨rfl, rfl⟩]; omega
    · rw [up2_rd, if_pos ⟨rfl, rfl⟩]; omega
    · rw [up2_na c1, up2_na c1]; exact p22.2 c (by omega)
