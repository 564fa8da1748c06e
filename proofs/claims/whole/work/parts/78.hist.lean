/-! HISTORY: the class keeps and gives back (by program, wip/gen) -/
theorem gr1_11 : am_gfr 1 11 1 0 = true := by decide +kernel
theorem o64 : am_oc 64 = 1 := by decide +kernel
theorem gi1_18 : am_gfi 1 18 1 1 = true := by decide +kernel
theorem m1_22 : am_mlk 1 22 0 17 = true := by decide +kernel
theorem pi64_18 : am_pfi 64 1 18 1 1 = true := by decide +kernel
theorem gi1_26 : am_gfi 1 26 1 2 = true := by decide +kernel
theorem m1_29 : am_mlk 1 29 7 0 = true := by decide +kernel
theorem pi64_26 : am_pfi 64 1 26 1 2 = true := by decide +kernel
theorem rt64 : am_rt 64 = none := by decide +kernel
theorem o65 : am_oc 65 = 1 := by decide +kernel
theorem pi65_18 : am_pfi 65 1 18 1 1 = true := by decide +kernel
theorem pi65_26 : am_pfi 65 1 26 1 2 = true := by decide +kernel
theorem rt65 : am_rt 65 = none := by decide +kernel
theorem t64 {L n : Nat} {g : AG} {M : AM} {q s : Int → Int} {b nx sz : Int} (hD : HD L n g) (hRA : RepS M 149 s) (hV : Val b q s) (hQ : ValQ q) (hn1 : M 202 1 = nx) (hn0 : 0 ≤ nx ∧ nx < 8) (hz2 : M 202 2 = sz) (hz0 : 0 ≤ sz ∧ sz ≤ 8) :
    Ok 1 64 0 [aR 202, aR 149] [] g M (Rt none g (fun M9 => KC M M9 s nx sz)) := by
  have hS202 := HD_h hD
  have hS149 := HD_b hD
  refine ok_aloadn (pc' := 1) i64_0 rfl rfl <| ok_getfr (r := (202 + 1)) (pc' := 4) i64_1 o64 gr1_11 (ShHist_k0 hS202) (ShHist_r0 hS202) rfl <| ok_aloadn (pc' := 5) i64_4 rfl rfl <| ok_getfi (v := nx) (pc' := 8) i64_5 o64 gi1_18 (ShHist_k0 hS202) hn1 rfl <| ok_aaload (r := (204 + 24 * (nx).toNat)) (pc' := 9) i64_8 (ShHist_k1 hS202) (by decide) (ShHist_l1 hS202) (by omega) (ShHist_ev1 hS202 (by omega) (by omega)) rfl <| ok_aloadn (pc' := 10) i64_9 rfl rfl <| ?_
  refine ok_cn0 (pc' := 13) (d0 := 0) i64_10 rfl (cl_v o64 m1_22 na17 rfl rfl (bt rfl) (bt rfl) rfl (by rw [ShState_k0 (HD_hi hD (nx).toNat (by omega)), o17])) ln17 (pd17 (aR (204 + 24 * (nx).toNat)) (aR 149)) (by omega) (t17 (B := (204 + 24 * (nx).toNat)) (A := 149) (HD_hi hD (nx).toNat (by omega)) hS149 hRA hV hQ (by omega)) rfl (fun M21 p22 => ?_)
  refine ok_aloadn (pc' := 14) i64_13 rfl rfl <| ok_aloadn (pc' := 15) i64_14 rfl rfl <| ok_getfi (v := nx) (pc' := 18) i64_15 o64 gi1_18 (ShHist_k0 hS202) (Eq.trans (congrFun (p22.2 202 (by omega)) 1) hn1) rfl <| ok_bipush (v := 7) (pc' := 20) i64_18 rfl rfl <| ?_
  refine ok_cne (pc1 := 27) (pc2 := 23) i64_20 (by omega) rfl rfl (fun h23 => ?_) (fun h23 => ?_)
  · refine ok_aloadn (pc' := 28) i64_27 rfl rfl <| ok_getfi (v := nx) (pc' := 31) i64_28 o64 gi1_18 (ShHist_k0 hS202) (Eq.trans (congrFun (p22.2 202 (by omega)) 1) hn1) rfl <| ok_iconst (pc' := 32) i64_31 rfl <| ok_iadd (v := (nx + 1)) (pc' := 33) i64_32 rfl rfl <| ok_putfj (kk := 1) (pc' := 36) i64_33 o64 pi64_18 (ShHist_k0 hS202) rfl rfl <| ok_aloadn (pc' := 37) i64_36 rfl rfl <| ok_aloadn (pc' := 38) i64_37 rfl rfl <| ok_getfi (v := sz) (pc' := 41) i64_38 o64 gi1_26 (ShHist_k0 hS202) (rd_ni (by decide) (Eq.trans (congrFun (p22.2 202 (by omega)) 2) hz2)) rfl <| ?_
    refine ok_iconst (pc' := 42) i64_41 rfl <| ok_iadd (v := (sz + 1)) (pc' := 43) i64_42 rfl rfl <| ok_bipush (v := 8) (pc' := 45) i64_43 rfl rfl <| ok_min (v := (min (sz + 1) 8)) (pc' := 48) i64_45 o64 m1_29 (by omega) (bt rfl) rfl rfl <| ?_
    have z301 : (min (sz + 1) 8) ≤ (sz + 1) ∧ (min (sz + 1) 8) ≤ 8 := by omega
    have z302 : 0 ≤ (min (sz + 1) 8) := by omega
    refine ok_putfj (kk := 2) (pc' := 51) i64_48 o64 pi64_26 (ShHist_k0 hS202) rfl rfl <| ok_vret i64_51 rt64 <| ?_
    refine ⟨rfl, rfl, RepS.fr p22.1 (fun a h1 h2 => by rw [up2_na (by omega), up2_na (by omega)]), ?_, ?_, fun c c1 c2 => ?_⟩
    · rw [up2_rd, if_neg (by omega), up2_rd, if_pos ⟨rfl, rfl⟩]; unfold nxt; rw [if_neg (by omega)]
    · rw [up2_rd, if_pos ⟨rfl, rfl⟩]
    · rw [up2_na c1, up2_na c1]; exact p22.2 c (by omega)
  · refine ok_iconst (pc' := 24) i64_23 rfl <| ok_goto (pc' := 33) i64_24 rfl <| ok_putfj (kk := 1) (pc' := 36) i64_33 o64 pi64_18 (ShHist_k0 hS202) rfl rfl <| ok_aloadn (pc' := 37) i64_36 rfl rfl <| ok_aloadn (pc' := 38) i64_37 rfl rfl <| ok_getfi (v := sz) (pc' := 41) i64_38 o64 gi1_26 (ShHist_k0 hS202) (rd_ni (by decide) (Eq.trans (congrFun (p22.2 202 (by omega)) 2) hz2)) rfl <| ok_iconst (pc' := 42) i64_41 rfl <| ok_iadd (v := (sz + 1)) (pc' := 43) i64_42 rfl rfl <| ?_
    refine ok_bipush (v := 8) (pc' := 45) i64_43 rfl rfl <| ok_min (v := (min (sz + 1) 8)) (pc' := 48) i64_45 o64 m1_29 (by omega) (bt rfl) rfl rfl <| ?_
    have z303 : (min (sz + 1) 8) ≤ (sz + 1) ∧ (min (sz + 1) 8) ≤ 8 := by omega
    have z304 : 0 ≤ (min (sz + 1) 8) := by omega
    refine ok_putfj (kk := 2) (pc' := 51) i64_48 o64 pi64_26 (ShHist_k0 hS202) rfl rfl <| ok_vret i64_51 rt64 <| ?_
    refine ⟨rfl, rfl, RepS.fr p22.1 (fun a h1 h2 => by rw [up2_na (by omega), up2_na (by omega)]), ?_, ?_, fun c c1 c2 => ?_⟩
    · rw [up2_rd, if_neg (by omega), up2_rd, if_pos ⟨rfl, rfl⟩]; unfold nxt; rw [if_pos (by omega)]
    · rw [up2_rd, if_pos ⟨rfl, rfl⟩]
    · rw [up2_na c1, up2_na c1]; exact p22.2 c (by omega)
def KB (M M9 : AM) (s : Int → Int) (nx sz : Int) : Prop := RepS M9 149 s ∧ M9 202 1 = prv nx ∧ M9 202 2 = sz - 1 ∧ ∀ c : Nat, c ≠ 202 → (c < 149 ∨ 173 ≤ c) → M9 c = M c
theorem t65 {L n : Nat} {g : AG} {M : AM} {q s : Int → Int} {b nx sz : Int} (hD : HD L n g) (hRs : RepS M (204 + 24 * (prv nx).toNat) s) (hV : Val b q s) (hQ : ValQ q) (hn1 : M 202 1 = nx) (hn0 : 0 ≤ nx ∧ nx < 8) (hz2 : M 202 2 = sz) (hz0 : 0 ≤ sz ∧ sz ≤ 8) (hz : 0 < sz) :
    Ok 1 65 0 [aR 202, aR 149] [] g M (Rt none g (fun M9 => KB M M9 s nx sz)) := by
  have hS202 := HD_h hD
  have hS149 := HD_b hD
  refine ok_aloadn (pc' := 1) i65_0 rfl rfl <| ok_getfi (v := sz) (pc' := 4) i65_1 o65 gi1_26 (ShHist_k0 hS202) hz2 rfl <| ?_
  refine ok_zle (pc1 := 52) (pc2 := 7) i65_4 (by omega) rfl rfl (fun h9 => by exfalso; omega) (fun h21 => ?_)
  refine ok_aloadn (pc' := 8) i65_7 rfl rfl <| ok_aloadn (pc' := 9) i65_8 rfl rfl <| ok_getfi (v := nx) (pc' := 12) i65_9 o65 gi1_18 (ShHist_k0 hS202) hn1 rfl <| ?_
  refine ok_zne (pc1 := 20) (pc2 := 15) i65_12 (by omega) rfl rfl (fun h22 => ?_) (fun h22 => ?_)
  · refine ok_aloadn (pc' := 21) i65_20 rfl rfl <| ok_getfi (v := nx) (pc' := 24) i65_21 o65 gi1_18 (ShHist_k0 hS202) hn1 rfl <| ok_iconst (pc' := 25) i65_24 rfl <| ok_isub (v := (nx - 1)) (pc' := 26) i65_25 rfl rfl <| ok_putfj (kk := 1) (pc' := 29) i65_26 o65 pi65_18 (ShHist_k0 hS202) rfl rfl <| ok_aloadn (pc' := 30) i65_29 rfl rfl <| ok_dup (pc' := 31) i65_30 rfl rfl <| ok_getfi (v := sz) (pc' := 34) i65_31 o65 gi1_26 (ShHist_k0 hS202) (rd_ni (by decide) hz2) rfl <| ?_
    refine ok_iconst (pc' := 35) i65_34 rfl <| ok_isub (v := (sz - 1)) (pc' := 36) i65_35 rfl rfl <| ok_putfj (kk := 2) (pc' := 39) i65_36 o65 pi65_26 (ShHist_k0 hS202) rfl rfl <| ok_aloadn (pc' := 40) i65_39 rfl rfl <| ok_aloadn (pc' := 41) i65_40 rfl rfl <| ok_getfr (r := (202 + 1)) (pc' := 44) i65_41 o65 gr1_11 (ShHist_k0 hS202) (ShHist_r0 hS202) rfl <| ok_aloadn (pc' := 45) i65_44 rfl rfl <| ok_getfi (v := (nx - 1)) (pc' := 48) i65_45 o65 gi1_18 (ShHist_k0 hS202) (rd_ni (by decide) rd_eq) rfl <| ?_
    refine ok_aaload (r := (204 + 24 * ((nx - 1)).toNat)) (pc' := 49) i65_48 (ShHist_k1 hS202) (by decide) (ShHist_l1 hS202) (by omega) (ShHist_ev1 hS202 (by omega) (by omega)) rfl <| ?_
    have ep : prv nx = (nx - 1) := by unfold prv; rw [if_neg (by omega)]
    have hRp : RepS M (204 + 24 * ((nx - 1)).toNat) s := by rw [ep] at hRs; exact hRs
    refine ok_cn0 (pc' := 52) (d0 := 0) i65_49 rfl (cl_v o65 m1_22 na17 rfl rfl (bt rfl) (bt rfl) rfl (by rw [ShState_k0 hS149, o17])) ln17 (pd17 (aR 149) (aR (204 + 24 * ((nx - 1)).toNat))) (by omega) (t17 (B := 149) (A := (204 + 24 * ((nx - 1)).toNat)) hS149 (HD_hi hD ((nx - 1)).toNat (by omega)) (RepS.fr hRp (fun a h1 h2 => by rw [up2_na (by omega), up2_na (by omega)])) hV hQ (by omega)) rfl (fun M23 p24 => ?_)
    refine ok_vret i65_52 rt65 <| ?_
    refine ⟨rfl, rfl, p24.1, ?_, ?_, fun c c1 c2 => ?_⟩
    · rw [p24.2 202 (by omega), up2_rd, if_neg (by omega), up2_rd, if_pos ⟨rfl, rfl⟩, ep]
    · rw [p24.2 202 (by omega), up2_rd, if_pos ⟨rfl, rfl⟩]
    · rw [p24.2 c (by omega), up2_na c1, up2_na c1]
  · refine ok_bipush (v := 7) (pc' := 17) i65_15 rfl rfl <| ok_goto (pc' := 26) i65_17 rfl <| ok_putfj (kk := 1) (pc' := 29) i65_26 o65 pi65_18 (ShHist_k0 hS202) rfl rfl <| ok_aloadn (pc' := 30) i65_29 rfl rfl <| ok_dup (pc' := 31) i65_30 rfl rfl <| ok_getfi (v := sz) (pc' := 34) i65_31 o65 gi1_26 (ShHist_k0 hS202) (rd_ni (by decide) hz2) rfl <| ok_iconst (pc' := 35) i65_34 rfl <| ok_isub (v := (sz - 1)) (pc' := 36) i65_35 rfl rfl <| ?_
    refine ok_putfj (kk := 2) (pc' := 39) i65_36 o65 pi65_26 (ShHist_k0 hS202) rfl rfl <| ok_aloadn (pc' := 40) i65_39 rfl rfl <| ok_aloadn (pc' := 41) i65_40 rfl rfl <| ok_getfr (r := (202 + 1)) (pc' := 44) i65_41 o65 gr1_11 (ShHist_k0 hS202) (ShHist_r0 hS202) rfl <| ok_aloadn (pc' := 45) i65_44 rfl rfl <| ok_getfi (v := 7) (pc' := 48) i65_45 o65 gi1_18 (ShHist_k0 hS202) (rd_ni (by decide) rd_eq) rfl <| ok_aaload (r := (204 + 24 * 7)) (pc' := 49) i65_48 (ShHist_k1 hS202) (by decide) (ShHist_l1 hS202) (by decide) (ShHist_e1_7 hS202) rfl <| ?_
    have ep : prv nx = 7 := by unfold prv; rw [if_pos (by omega)]
    have hRp : RepS M (204 + 24 * 7) s := by rw [ep] at hRs; exact hRs
    refine ok_cn0 (pc' := 52) (d0 := 0) i65_49 rfl (cl_v o65 m1_22 na17 rfl rfl (bt rfl) (bt rfl) rfl (by rw [ShState_k0 hS149, o17])) ln17 (pd17 (aR 149) (aR (204 + 24 * 7))) (by omega) (t17 (B := 149) (A := (204 + 24 * 7)) hS149 (HD_hi hD 7 (by omega)) (RepS.fr hRp (fun a h1 h2 => by rw [up2_na (by omega), up2_na (by omega)])) hV hQ (by omega)) rfl (fun M25 p26 => ?_)
    refine ok_vret i65_52 rt65 <| ?_
    refine ⟨rfl, rfl, p26.1, ?_, ?_, fun c c1 c2 => ?_⟩
    · rw [p26.2 202 (by omega), up2_rd, if_neg (by omega), up2_rd, if_pos ⟨rfl, rfl⟩, ep]
    · rw [p26.2 202 (by omega), up2_rd, if_pos ⟨rfl, rfl⟩]
    · rw [p26.2 c (by omega), up2_na c1, up2_na c1]
