/-! DRAWS (by program, wip/p60/gen) -/
theorem o192 : am_oc 192 = 9 := by decide +kernel
theorem gi9_13 : am_gfi 9 13 9 1 = true := by decide +kernel
theorem gr9_7 : am_gfr 9 7 9 0 = true := by decide +kernel
theorem pi192_13 : am_pfi 192 9 13 9 1 = true := by decide +kernel
theorem rt192 : am_rt 192 = some .int := by decide +kernel
theorem ct9_17 : (am_ct 9 17).map (fun q => q.2.1) = some 2147483647 := by decide +kernel
theorem tmod_lt {v m : Int} (h : 0 ≤ v) (hm : 0 < m) : 0 ≤ v.tmod m ∧ v.tmod m < m := ⟨Int.tmod_nonneg m h, Int.tmod_lt_of_pos v hm⟩
theorem t192 {g : AG} {M : AM} {L : Nat} {d lo hi : Int} (hD : Dr g M L d) (hlo : 0 ≤ lo ∧ lo ≤ hi) (hhi : hi ≤ 1000) : Ok 0 192 0 [aR 100, aI lo, aI hi, aU] [] g M (fun o g1 M1 => ∃ v : Int, o = .inl (some (aI v)) ∧ lo ≤ v ∧ v ≤ hi ∧ g1 = g ∧ M1 = up2 M 100 1 (d + 1)) := by
  obtain ⟨hd, hL⟩ := hD.2.2.2.2.2
  obtain ⟨n, hn⟩ : ∃ n : Int, n = (L : Int) := ⟨_, rfl⟩
  have hn2 : 0 ≤ n ∧ n ≤ 260 := by omega
  refine ok_aloadn (pc' := 1) i192_0 rfl rfl <| ok_getfi (v := d) (pc' := 4) i192_1 o192 gi9_13 (hD.1) (hD.2.2.2.2.1) rfl <| ok_aloadn (pc' := 5) i192_4 rfl rfl <| ok_getfr (r := 1) (pc' := 8) i192_5 o192 gr9_7 (hD.1) (hD.2.1) rfl <| ok_arrlen (v := n) (pc' := 9) i192_8 (hD.2.2.1) (by decide) ((show ((gL g 1 : Nat) : Int) = n by rw [hD.2.2.2.1]; exact hn.symm)) rfl <| ?_
  refine ok_cge (pc1 := 27) (pc2 := 12) i192_9 (by omega) rfl rfl (fun h1 => ?_) (fun h1 => ?_)
  · refine ok_iconst (pc' := 28) i192_27 rfl <| ok_istoren (pc' := 29) (ls' := [aR 100, aI lo, aI hi, aI 0]) i192_28 (bt rfl) rfl rfl <| ok_aloadn (pc' := 30) i192_29 rfl rfl <| ok_dup (pc' := 31) i192_30 rfl rfl <| ok_getfi (v := d) (pc' := 34) i192_31 o192 gi9_13 (hD.1) (hD.2.2.2.2.1) rfl <| ok_iconst (pc' := 35) i192_34 rfl <| ok_iadd (v := (d + 1)) (pc' := 36) i192_35 rfl rfl <| ok_putfj (kk := 1) (pc' := 39) i192_36 o192 pi192_13 (hD.1) rfl rfl <| ?_
    refine ok_iloadn (pc' := 40) i192_39 rfl rfl <| ok_iloadn (pc' := 41) i192_40 rfl rfl <| ok_iloadn (pc' := 42) i192_41 rfl rfl <| ok_iloadn (pc' := 43) i192_42 rfl rfl <| ok_isub (v := (hi - lo)) (pc' := 44) i192_43 rfl rfl <| ok_iconst (pc' := 45) i192_44 rfl <| ok_iadd (v := ((hi - lo) + 1)) (pc' := 46) i192_45 rfl rfl <| ok_iremp (v := (Int.tmod 0 ((hi - lo) + 1))) (pc' := 47) i192_46 (by omega) rfl rfl <| ?_
    have z2 : 0 ≤ (Int.tmod 0 ((hi - lo) + 1)) ∧ (Int.tmod 0 ((hi - lo) + 1)) < ((hi - lo) + 1) := tmod_lt (by omega) (by omega)
    refine ok_iadd (v := (lo + (Int.tmod 0 ((hi - lo) + 1)))) (pc' := 48) i192_47 rfl rfl <| ok_ireti i192_48 rt192 <| ?_
    exact ⟨_, rfl, by omega, by omega, rfl, rfl⟩
  · refine ok_aloadn (pc' := 13) i192_12 rfl rfl <| ok_getfr (r := 1) (pc' := 16) i192_13 o192 gr9_7 (hD.1) (hD.2.1) rfl <| ok_aloadn (pc' := 17) i192_16 rfl rfl <| ok_getfi (v := d) (pc' := 20) i192_17 o192 gi9_13 (hD.1) (hD.2.2.2.2.1) rfl <| ?_
    have b3 := (show ((gL g 1 : Nat) : Int) = n by rw [hD.2.2.2.1]; exact hn.symm)
    refine ok_iaload (v := (M 1 d)) (pc' := 21) i192_20 (hD.2.2.1) (by decide) (rfl) (by omega) (rfl) rfl <| ok_ldct (x := 2147483647) (pc' := 23) i192_21 o192 ct9_17 rfl <| ?_
    have z4 : 0 ≤ (am_and (M 1 d) 2147483647) ∧ (am_and (M 1 d) 2147483647) < 2147483648 := and31
    refine ok_iand (v := (am_and (M 1 d) 2147483647)) (pc' := 24) i192_23 rfl rfl <| ok_goto (pc' := 28) i192_24 rfl <| ok_istoren (pc' := 29) (ls' := [aR 100, aI lo, aI hi, aI (am_and (M 1 d) 2147483647)]) i192_28 (bt rfl) rfl rfl <| ok_aloadn (pc' := 30) i192_29 rfl rfl <| ok_dup (pc' := 31) i192_30 rfl rfl <| ok_getfi (v := d) (pc' := 34) i192_31 o192 gi9_13 (hD.1) (hD.2.2.2.2.1) rfl <| ok_iconst (pc' := 35) i192_34 rfl <| ok_iadd (v := (d + 1)) (pc' := 36) i192_35 rfl rfl <| ?_
    refine ok_putfj (kk := 1) (pc' := 39) i192_36 o192 pi192_13 (hD.1) rfl rfl <| ok_iloadn (pc' := 40) i192_39 rfl rfl <| ok_iloadn (pc' := 41) i192_40 rfl rfl <| ok_iloadn (pc' := 42) i192_41 rfl rfl <| ok_iloadn (pc' := 43) i192_42 rfl rfl <| ok_isub (v := (hi - lo)) (pc' := 44) i192_43 rfl rfl <| ok_iconst (pc' := 45) i192_44 rfl <| ok_iadd (v := ((hi - lo) + 1)) (pc' := 46) i192_45 rfl rfl <| ?_
    refine ok_iremp (v := (Int.tmod (am_and (M 1 d) 2147483647) ((hi - lo) + 1))) (pc' := 47) i192_46 (by omega) rfl rfl <| ?_
    have z5 : 0 ≤ (Int.tmod (am_and (M 1 d) 2147483647) ((hi - lo) + 1)) ∧ (Int.tmod (am_and (M 1 d) 2147483647) ((hi - lo) + 1)) < ((hi - lo) + 1) := tmod_lt (by omega) (by omega)
    refine ok_iadd (v := (lo + (Int.tmod (am_and (M 1 d) 2147483647) ((hi - lo) + 1)))) (pc' := 48) i192_47 rfl rfl <| ok_ireti i192_48 rt192 <| ?_
    exact ⟨_, rfl, by omega, by omega, rfl, rfl⟩
