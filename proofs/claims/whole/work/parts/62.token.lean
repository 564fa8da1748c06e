/-! TOKENS AND WORDS: the reference (by program, wip/gen) -/
/-! TOKENS AND WORDS: the reference -/
def ub (by_ : Int → Int) (i : Int) : Int := by_ i % 256
theorem ub_f {by_ : Int → Int} {i : Int} : 0 ≤ ub by_ i ∧ ub by_ i ≤ 255 := by unfold ub; omega
def InU (M : AM) (O : Nat) (by_ : Int → Int) : Prop := ∀ i : Int, 0 ≤ i → i < 700 → M (O + 8) i = ub by_ i ∧ -128 ≤ by_ i ∧ by_ i < 128
def srt (ty : Int) : Int := if ty = 0 then 1 else if ty = 1 then 2 else if ty = 2 then 3 else if ty = 3 then 0 else 4
theorem srt_f {ty : Int} (h : 0 ≤ ty ∧ ty ≤ 4) : (0 ≤ srt ty ∧ srt ty ≤ 4) ∧ (srt ty = 2 ↔ ty = 1) ∧ (srt ty = 1 ↔ ty = 0) ∧ (srt ty = 3 ↔ ty = 2) ∧ (srt ty = 0 ↔ ty = 3) := by
  unfold srt
  rcases (show ty = 0 ∨ ty = 1 ∨ ty = 2 ∨ ty = 3 ∨ ty = 4 by omega) with rfl | rfl | rfl | rfl | rfl <;> simp
theorem gi9_83 : am_gfi 9 83 9 18 = true := by decide +kernel
theorem o167 : am_oc 167 = 9 := by decide +kernel
theorem m9_86 : am_mlk 9 86 0 168 = true := by decide +kernel
theorem na168 : am_na 168 = 1 := by decide +kernel
theorem nl168 : am_nL 168 = 2 := by decide +kernel
theorem pd168 : ∀ a0 a1 : AV, am_pad 168 [a0, a1] = [a0, a1] := by intros; unfold am_pad; rw [nl168]; rfl
theorem ln168 : 2 ≤ am_nL 168 := by rw [nl168]; decide
theorem o168 : am_oc 168 = 9 := by decide +kernel
theorem gi9_80 : am_gfi 9 80 9 17 = true := by decide +kernel
theorem rt168 : am_rt 168 = some .int := by decide +kernel
theorem m9_96 : am_mlk 9 96 1 169 = true := by decide +kernel
theorem na169 : am_na 169 = 1 := by decide +kernel
theorem nl169 : am_nL 169 = 1 := by decide +kernel
theorem pd169 : ∀ a0 : AV, am_pad 169 [a0] = [a0] := by intros; unfold am_pad; rw [nl169]; rfl
theorem ln169 : 1 ≤ am_nL 169 := by rw [nl169]; decide
theorem o169 : am_oc 169 = 9 := by decide +kernel
theorem rt169 : am_rt 169 = some .boolean := by decide +kernel
theorem gi9_90 : am_gfi 9 90 9 19 = true := by decide +kernel
theorem pi167_93 : am_pfi 167 9 93 9 20 = true := by decide +kernel
theorem rt167 : am_rt 167 = none := by decide +kernel
theorem gr9_32 : am_gfr 9 32 9 12 = true := by decide +kernel
theorem pi167_83 : am_pfi 167 9 83 9 18 = true := by decide +kernel
theorem m9_100 : am_mlk 9 100 1 170 = true := by decide +kernel
theorem na170 : am_na 170 = 1 := by decide +kernel
theorem nl170 : am_nL 170 = 1 := by decide +kernel
theorem pd170 : ∀ a0 : AV, am_pad 170 [a0] = [a0] := by intros; unfold am_pad; rw [nl170]; rfl
theorem ln170 : 1 ≤ am_nL 170 := by rw [nl170]; decide
theorem o170 : am_oc 170 = 9 := by decide +kernel
theorem rt170 : am_rt 170 = some .boolean := by decide +kernel
theorem pi167_103 : am_pfi 167 9 103 9 21 = true := by decide +kernel
theorem gi9_103 : am_gfi 9 103 9 21 = true := by decide +kernel
theorem pi167_90 : am_pfi 167 9 90 9 19 = true := by decide +kernel
theorem w167_63 {g : AG} {M : AM} {O : Nat} {by_ : Int → Int} {n a : Int} {st c : Int} (hSO : ShModel g O) (hU : InU M O by_) (j17 : M O 17 = n) (hn : 0 ≤ n ∧ n ≤ 700) (ha : 0 ≤ a ∧ a ≤ n) (j18 : M O 18 = a) (j19 : M O 19 = st) (hst : 0 ≤ st ∧ st ≤ a) :
    Ok 1 167 63 [aR O, aI c] [] g M (Rt none g (fun M9 => M9 = up2 (up2 M O 18 (run pL by_ n a)) O 20 (if run pL by_ n a - st ≤ 8 then 1 else 4))) := by
  refine ok_while (σ := Int) (fun x ls M9 => (a ≤ x ∧ x ≤ n) ∧ run pL by_ n a = run pL by_ n x ∧ M9 = up2 M O 18 x ∧ ls = [aR O, aI c]) (fun x => (n - x).toNat) ?_ a _ M ⟨by omega, rfl, (up2_self j18).symm, rfl⟩
  rintro x ls M9 ⟨hx, hr, hM, rfl⟩ ih
  have h17 : M9 O 17 = n := by rw [hM]; exact rd_ni (by decide) j17
  have h18 : M9 O 18 = x := by rw [hM]; exact rd_eq
  have h19 : M9 O 19 = st := by rw [hM]; exact rd_ni (by decide) j19
  have hU9 : InU M9 O by_ := fun i h0 h1 => by rw [hM, up2_na (by omega)]; exact hU i h0 h1
  refine ok_aloadn (pc' := 64) i167_63 rfl rfl <| ok_aloadn (pc' := 65) i167_64 rfl rfl <| ok_getfi (v := x) (pc' := 68) i167_65 o167 gi9_83 (ShModel_k0 hSO) h18 rfl <| ok_cc i167_68 rfl (cl_v o167 m9_86 na168 rfl rfl (bt rfl) (bt rfl) rfl (by rw [ShModel_k0 hSO, o168])) ln168 (pd168 (aR O) (aI x)) <| ok_iloadn (pc' := 1) i168_0 rfl rfl <| ok_aloadn (pc' := 2) i168_1 rfl rfl <| ok_getfi (v := n) (pc' := 5) i168_2 o168 gi9_80 (ShModel_k0 hSO) h17 rfl <| ?_
  refine ok_cge (pc1 := 17) (pc2 := 8) i168_5 (by omega) rfl rfl (fun h1 => ?_) (fun h1 => ?_)
  · refine ok_iconst (pc' := 18) i168_17 rfl <| ok_ireti i168_18 rt168 <| kt_v (pc' := 71) rfl <| ok_cc i167_71 rfl (cl_s o167 m9_96 na169 rfl rfl (bt rfl) (bt rfl) rfl) ln169 (pd169 (aI (-1))) <| ok_iloadn (pc' := 1) i169_0 rfl rfl <| ok_bipush (v := 97) (pc' := 3) i169_1 rfl rfl <| ok_kc1 (pc1 := 16) (pc2 := 6) i169_3 (by decide) rfl rfl <| ok_iconst (pc' := 17) i169_16 rfl <| ?_
    refine ok_iretz i169_17 rt169 (by decide) <| kt_v (pc' := 74) rfl <| ok_kz1 (pc1 := 90) (pc2 := 77) i167_74 (by decide) rfl rfl <| ok_aloadn (pc' := 91) i167_90 rfl rfl <| ok_aloadn (pc' := 92) i167_91 rfl rfl <| ok_getfi (v := x) (pc' := 95) i167_92 o167 gi9_83 (ShModel_k0 hSO) h18 rfl <| ok_aloadn (pc' := 96) i167_95 rfl rfl <| ok_getfi (v := st) (pc' := 99) i167_96 o167 gi9_90 (ShModel_k0 hSO) h19 rfl <| ?_
    refine ok_isub (v := (x - st)) (pc' := 100) i167_99 rfl rfl <| ok_bipush (v := 8) (pc' := 102) i167_100 rfl rfl <| ?_
    refine ok_cle (pc1 := 109) (pc2 := 105) i167_102 (by omega) rfl rfl (fun h2 => ?_) (fun h2 => ?_)
    · refine ok_iconst (pc' := 110) i167_109 rfl <| ok_putfj (kk := 20) (pc' := 113) i167_110 o167 pi167_93 (ShModel_k0 hSO) rfl rfl <| ok_goto (pc' := 245) i167_113 rfl <| ok_vret i167_245 rt167 <| ?_
      exact ⟨rfl, rfl, by rw [hM, hr, run_end (Or.inl (by omega)), if_pos (by omega)]⟩
    · refine ok_iconst (pc' := 106) i167_105 rfl <| ok_goto (pc' := 110) i167_106 rfl <| ok_putfj (kk := 20) (pc' := 113) i167_110 o167 pi167_93 (ShModel_k0 hSO) rfl rfl <| ok_goto (pc' := 245) i167_113 rfl <| ok_vret i167_245 rt167 <| ?_
      exact ⟨rfl, rfl, by rw [hM, hr, run_end (Or.inl (by omega)), if_neg (by omega)]⟩
  · refine ok_aloadn (pc' := 9) i168_8 rfl rfl <| ok_getfr (r := (O + 8)) (pc' := 12) i168_9 o168 gr9_32 (ShModel_k0 hSO) (ShModel_r12 hSO) rfl <| ok_iloadn (pc' := 13) i168_12 rfl rfl <| ?_
    have z61 : 0 ≤ (ub by_ x) ∧ (ub by_ x) ≤ 255 := ub_f
    have u_x : ub by_ x = by_ x % 256 ∧ -128 ≤ by_ x ∧ by_ x < 128 := ⟨rfl, (hU9 x (by omega) (by omega)).2⟩
    refine ok_iaload (v := (ub by_ x)) (pc' := 14) i168_13 (ShModel_k8 hSO) (by decide) (ShModel_l8 hSO) (by omega) (hU9 x (by omega) (by omega)).1 rfl <| ok_goto (pc' := 18) i168_14 rfl <| ok_ireti i168_18 rt168 <| kt_v (pc' := 71) rfl <| ok_cc i167_71 rfl (cl_s o167 m9_96 na169 rfl rfl (bt rfl) (bt rfl) rfl) ln169 (pd169 (aI (ub by_ x))) <| ok_iloadn (pc' := 1) i169_0 rfl rfl <| ok_bipush (v := 97) (pc' := 3) i169_1 rfl rfl <| ?_
    refine ok_clt (pc1 := 16) (pc2 := 6) i169_3 (by omega) rfl rfl (fun h3 => ?_) (fun h3 => ?_)
    · refine ok_iconst (pc' := 17) i169_16 rfl <| ok_iretz i169_17 rt169 (by decide) <| kt_v (pc' := 74) rfl <| ok_kz1 (pc1 := 90) (pc2 := 77) i167_74 (by decide) rfl rfl <| ok_aloadn (pc' := 91) i167_90 rfl rfl <| ok_aloadn (pc' := 92) i167_91 rfl rfl <| ok_getfi (v := x) (pc' := 95) i167_92 o167 gi9_83 (ShModel_k0 hSO) h18 rfl <| ok_aloadn (pc' := 96) i167_95 rfl rfl <| ?_
      refine ok_getfi (v := st) (pc' := 99) i167_96 o167 gi9_90 (ShModel_k0 hSO) h19 rfl <| ok_isub (v := (x - st)) (pc' := 100) i167_99 rfl rfl <| ok_bipush (v := 8) (pc' := 102) i167_100 rfl rfl <| ?_
      refine ok_cle (pc1 := 109) (pc2 := 105) i167_102 (by omega) rfl rfl (fun h4 => ?_) (fun h4 => ?_)
      · refine ok_iconst (pc' := 110) i167_109 rfl <| ok_putfj (kk := 20) (pc' := 113) i167_110 o167 pi167_93 (ShModel_k0 hSO) rfl rfl <| ok_goto (pc' := 245) i167_113 rfl <| ok_vret i167_245 rt167 <| ?_
        exact ⟨rfl, rfl, by rw [hM, hr, run_end (Or.inr (pL_f (by omega))), if_pos (by omega)]⟩
      · refine ok_iconst (pc' := 106) i167_105 rfl <| ok_goto (pc' := 110) i167_106 rfl <| ok_putfj (kk := 20) (pc' := 113) i167_110 o167 pi167_93 (ShModel_k0 hSO) rfl rfl <| ok_goto (pc' := 245) i167_113 rfl <| ok_vret i167_245 rt167 <| ?_
        exact ⟨rfl, rfl, by rw [hM, hr, run_end (Or.inr (pL_f (by omega))), if_neg (by omega)]⟩
    · refine ok_iloadn (pc' := 7) i169_6 rfl rfl <| ok_bipush (v := 122) (pc' := 9) i169_7 rfl rfl <| ?_
      refine ok_cgt (pc1 := 16) (pc2 := 12) i169_9 (by omega) rfl rfl (fun h5 => ?_) (fun h5 => ?_)
      · refine ok_iconst (pc' := 17) i169_16 rfl <| ok_iretz i169_17 rt169 (by decide) <| kt_v (pc' := 74) rfl <| ok_kz1 (pc1 := 90) (pc2 := 77) i167_74 (by decide) rfl rfl <| ok_aloadn (pc' := 91) i167_90 rfl rfl <| ok_aloadn (pc' := 92) i167_91 rfl rfl <| ok_getfi (v := x) (pc' := 95) i167_92 o167 gi9_83 (ShModel_k0 hSO) h18 rfl <| ok_aloadn (pc' := 96) i167_95 rfl rfl <| ?_
        refine ok_getfi (v := st) (pc' := 99) i167_96 o167 gi9_90 (ShModel_k0 hSO) h19 rfl <| ok_isub (v := (x - st)) (pc' := 100) i167_99 rfl rfl <| ok_bipush (v := 8) (pc' := 102) i167_100 rfl rfl <| ?_
        refine ok_cle (pc1 := 109) (pc2 := 105) i167_102 (by omega) rfl rfl (fun h6 => ?_) (fun h6 => ?_)
        · refine ok_iconst (pc' := 110) i167_109 rfl <| ok_putfj (kk := 20) (pc' := 113) i167_110 o167 pi167_93 (ShModel_k0 hSO) rfl rfl <| ok_goto (pc' := 245) i167_113 rfl <| ok_vret i167_245 rt167 <| ?_
          exact ⟨rfl, rfl, by rw [hM, hr, run_end (Or.inr (pL_f (by omega))), if_pos (by omega)]⟩
        · refine ok_iconst (pc' := 106) i167_105 rfl <| ok_goto (pc' := 110) i167_106 rfl <| ok_putfj (kk := 20) (pc' := 113) i167_110 o167 pi167_93 (ShModel_k0 hSO) rfl rfl <| ok_goto (pc' := 245) i167_113 rfl <| ok_vret i167_245 rt167 <| ?_
          exact ⟨rfl, rfl, by rw [hM, hr, run_end (Or.inr (pL_f (by omega))), if_neg (by omega)]⟩
      · refine ok_iconst (pc' := 13) i169_12 rfl <| ok_goto (pc' := 17) i169_13 rfl <| ok_iretz i169_17 rt169 (by decide) <| kt_v (pc' := 74) rfl <| ok_kz0 (pc1 := 90) (pc2 := 77) i167_74 (by decide) rfl rfl <| ok_aloadn (pc' := 78) i167_77 rfl rfl <| ok_dup (pc' := 79) i167_78 rfl rfl <| ok_getfi (v := x) (pc' := 82) i167_79 o167 gi9_83 (ShModel_k0 hSO) h18 rfl <| ?_
        refine ok_iconst (pc' := 83) i167_82 rfl <| ok_iadd (v := (x + 1)) (pc' := 84) i167_83 rfl rfl <| ok_putfj (kk := 18) (pc' := 87) i167_84 o167 pi167_83 (ShModel_k0 hSO) rfl rfl <| ok_goto (pc' := 63) i167_87 rfl <| ?_
        exact ih (x + 1) _ _ (by omega) ⟨by omega, by rw [hr, run_go (by omega) (pL_t (by omega))], by rw [hM]; exact up2_up2, rfl⟩
theorem w167_128 {g : AG} {M : AM} {O : Nat} {by_ : Int → Int} {n a : Int} {st c : Int} (hSO : ShModel g O) (hU : InU M O by_) (j17 : M O 17 = n) (hn : 0 ≤ n ∧ n ≤ 700) (ha : 0 ≤ a ∧ a ≤ n) (j18 : M O 18 = a) (j19 : M O 19 = st) (hst : st = a) (j21 : M O 21 = 0) :
    Ok 1 167 128 [aR O, aI c] [] g M (Rt none g (fun M9 => M9 O 18 = run pD by_ n a ∧ M9 O 20 = (if run pD by_ n a - st ≤ 3 then 2 else 4) ∧ (run pD by_ n a - st ≤ 3 → M9 O 21 = numV by_ st (run pD by_ n a)) ∧ (∀ y : Int, y ≠ 18 → y ≠ 20 → y ≠ 21 → M9 O y = M O y) ∧ ∀ c, c ≠ O → M9 c = M c)) := by
  have hs0 : 0 ≤ st := by omega
  refine ok_while (σ := Int) (fun x ls M9 => (a ≤ x ∧ x ≤ n) ∧ run pD by_ n a = run pD by_ n x ∧ M9 O 18 = x ∧ M9 O 21 = (if x - st ≤ 3 then numV by_ st x else 0) ∧ (∀ y : Int, y ≠ 18 → y ≠ 21 → M9 O y = M O y) ∧ (∀ c, c ≠ O → M9 c = M c) ∧ ls = [aR O, aI c]) (fun x => (n - x).toNat) ?_ a _ _ ⟨by omega, rfl, j18, by rw [hst, j21, if_pos (by omega)]; unfold numV; rw [show (a - a).toNat = 0 by omega]; rfl, fun y c4 c7 => rfl, fun c hc => rfl, rfl⟩
  rintro x ls M9 ⟨hx, hr, h18, h21, hY, hC, rfl⟩ ih
  have h17 : M9 O 17 = n := (hY 17 (by decide) (by decide)).trans j17
  have h19 : M9 O 19 = st := (hY 19 (by decide) (by decide)).trans j19
  have hU9 : InU M9 O by_ := fun i h0 h1 => by rw [hC (O + 8) (by omega)]; exact hU i h0 h1
  refine ok_aloadn (pc' := 129) i167_128 rfl rfl <| ok_aloadn (pc' := 130) i167_129 rfl rfl <| ok_getfi (v := x) (pc' := 133) i167_130 o167 gi9_83 (ShModel_k0 hSO) h18 rfl <| ok_cc i167_133 rfl (cl_v o167 m9_86 na168 rfl rfl (bt rfl) (bt rfl) rfl (by rw [ShModel_k0 hSO, o168])) ln168 (pd168 (aR O) (aI x)) <| ok_iloadn (pc' := 1) i168_0 rfl rfl <| ok_aloadn (pc' := 2) i168_1 rfl rfl <| ok_getfi (v := n) (pc' := 5) i168_2 o168 gi9_80 (ShModel_k0 hSO) h17 rfl <| ?_
  refine ok_cge (pc1 := 17) (pc2 := 8) i168_5 (by omega) rfl rfl (fun h1 => ?_) (fun h1 => ?_)
  · refine ok_iconst (pc' := 18) i168_17 rfl <| ok_ireti i168_18 rt168 <| kt_v (pc' := 136) rfl <| ok_cc i167_136 rfl (cl_s o167 m9_100 na170 rfl rfl (bt rfl) (bt rfl) rfl) ln170 (pd170 (aI (-1))) <| ok_iloadn (pc' := 1) i170_0 rfl rfl <| ok_bipush (v := 48) (pc' := 3) i170_1 rfl rfl <| ok_kc1 (pc1 := 16) (pc2 := 6) i170_3 (by decide) rfl rfl <| ok_iconst (pc' := 17) i170_16 rfl <| ?_
    refine ok_iretz i170_17 rt170 (by decide) <| kt_v (pc' := 139) rfl <| ok_kz1 (pc1 := 195) (pc2 := 142) i167_139 (by decide) rfl rfl <| ok_aloadn (pc' := 196) i167_195 rfl rfl <| ok_aloadn (pc' := 197) i167_196 rfl rfl <| ok_getfi (v := x) (pc' := 200) i167_197 o167 gi9_83 (ShModel_k0 hSO) h18 rfl <| ok_aloadn (pc' := 201) i167_200 rfl rfl <| ok_getfi (v := st) (pc' := 204) i167_201 o167 gi9_90 (ShModel_k0 hSO) h19 rfl <| ?_
    refine ok_isub (v := (x - st)) (pc' := 205) i167_204 rfl rfl <| ok_iconst (pc' := 206) i167_205 rfl <| ?_
    refine ok_cle (pc1 := 213) (pc2 := 209) i167_206 (by omega) rfl rfl (fun h2 => ?_) (fun h2 => ?_)
    · refine ok_iconst (pc' := 214) i167_213 rfl <| ok_putfj (kk := 20) (pc' := 217) i167_214 o167 pi167_93 (ShModel_k0 hSO) rfl rfl <| ok_goto (pc' := 245) i167_217 rfl <| ok_vret i167_245 rt167 <| ?_
      refine ⟨rfl, rfl, ?_, ?_, ?_, fun y c4 c6 c7 => ?_, fun c hc => ?_⟩
      · rw [rd_ni (by decide) rfl, h18, hr, run_end (Or.inl (by omega))]
      · rw [rd_eq, hr, run_end (Or.inl (by omega)), if_pos (by omega)]
      · intro h7; rw [rd_ni (by decide) rfl, h21, hr, run_end (Or.inl (by omega)), if_pos (by omega)]
      · rw [up2_rd, if_neg (by omega)]; exact hY y c4 c7
      · rw [up2_na hc]; exact hC c hc
    · refine ok_iconst (pc' := 210) i167_209 rfl <| ok_goto (pc' := 214) i167_210 rfl <| ok_putfj (kk := 20) (pc' := 217) i167_214 o167 pi167_93 (ShModel_k0 hSO) rfl rfl <| ok_goto (pc' := 245) i167_217 rfl <| ok_vret i167_245 rt167 <| ?_
      refine ⟨rfl, rfl, ?_, ?_, ?_, fun y c4 c6 c7 => ?_, fun c hc => ?_⟩
      · rw [rd_ni (by decide) rfl, h18, hr, run_end (Or.inl (by omega))]
      · rw [rd_eq, hr, run_end (Or.inl (by omega)), if_neg (by omega)]
      · intro h7; rw [hr, run_end (Or.inl (by omega))] at h7; omega
      · rw [up2_rd, if_neg (by omega)]; exact hY y c4 c7
      · rw [up2_na hc]; exact hC c hc
  · refine ok_aloadn (pc' := 9) i168_8 rfl rfl <| ok_getfr (r := (O + 8)) (pc' := 12) i168_9 o168 gr9_32 (ShModel_k0 hSO) (ShModel_r12 hSO) rfl <| ok_iloadn (pc' := 13) i168_12 rfl rfl <| ?_
    have z61 : 0 ≤ (ub by_ x) ∧ (ub by_ x) ≤ 255 := ub_f
    have u_x : ub by_ x = by_ x % 256 ∧ -128 ≤ by_ x ∧ by_ x < 128 := ⟨rfl, (hU9 x (by omega) (by omega)).2⟩
    refine ok_iaload (v := (ub by_ x)) (pc' := 14) i168_13 (ShModel_k8 hSO) (by decide) (ShModel_l8 hSO) (by omega) (hU9 x (by omega) (by omega)).1 rfl <| ok_goto (pc' := 18) i168_14 rfl <| ok_ireti i168_18 rt168 <| kt_v (pc' := 136) rfl <| ok_cc i167_136 rfl (cl_s o167 m9_100 na170 rfl rfl (bt rfl) (bt rfl) rfl) ln170 (pd170 (aI (ub by_ x))) <| ok_iloadn (pc' := 1) i170_0 rfl rfl <| ok_bipush (v := 48) (pc' := 3) i170_1 rfl rfl <| ?_
    refine ok_clt (pc1 := 16) (pc2 := 6) i170_3 (by omega) rfl rfl (fun h3 => ?_) (fun h3 => ?_)
    · refine ok_iconst (pc' := 17) i170_16 rfl <| ok_iretz i170_17 rt170 (by decide) <| kt_v (pc' := 139) rfl <| ok_kz1 (pc1 := 195) (pc2 := 142) i167_139 (by decide) rfl rfl <| ok_aloadn (pc' := 196) i167_195 rfl rfl <| ok_aloadn (pc' := 197) i167_196 rfl rfl <| ok_getfi (v := x) (pc' := 200) i167_197 o167 gi9_83 (ShModel_k0 hSO) h18 rfl <| ok_aloadn (pc' := 201) i167_200 rfl rfl <| ?_
      refine ok_getfi (v := st) (pc' := 204) i167_201 o167 gi9_90 (ShModel_k0 hSO) h19 rfl <| ok_isub (v := (x - st)) (pc' := 205) i167_204 rfl rfl <| ok_iconst (pc' := 206) i167_205 rfl <| ?_
      refine ok_cle (pc1 := 213) (pc2 := 209) i167_206 (by omega) rfl rfl (fun h4 => ?_) (fun h4 => ?_)
      · refine ok_iconst (pc' := 214) i167_213 rfl <| ok_putfj (kk := 20) (pc' := 217) i167_214 o167 pi167_93 (ShModel_k0 hSO) rfl rfl <| ok_goto (pc' := 245) i167_217 rfl <| ok_vret i167_245 rt167 <| ?_
        refine ⟨rfl, rfl, ?_, ?_, ?_, fun y c4 c6 c7 => ?_, fun c hc => ?_⟩
        · rw [rd_ni (by decide) rfl, h18, hr, run_end (Or.inr (pD_f (by omega)))]
        · rw [rd_eq, hr, run_end (Or.inr (pD_f (by omega))), if_pos (by omega)]
        · intro h7; rw [rd_ni (by decide) rfl, h21, hr, run_end (Or.inr (pD_f (by omega))), if_pos (by omega)]
        · rw [up2_rd, if_neg (by omega)]; exact hY y c4 c7
        · rw [up2_na hc]; exact hC c hc
      · refine ok_iconst (pc' := 210) i167_209 rfl <| ok_goto (pc' := 214) i167_210 rfl <| ok_putfj (kk := 20) (pc' := 217) i167_214 o167 pi167_93 (ShModel_k0 hSO) rfl rfl <| ok_goto (pc' := 245) i167_217 rfl <| ok_vret i167_245 rt167 <| ?_
        refine ⟨rfl, rfl, ?_, ?_, ?_, fun y c4 c6 c7 => ?_, fun c hc => ?_⟩
        · rw [rd_ni (by decide) rfl, h18, hr, run_end (Or.inr (pD_f (by omega)))]
        · rw [rd_eq, hr, run_end (Or.inr (pD_f (by omega))), if_neg (by omega)]
        · intro h7; rw [hr, run_end (Or.inr (pD_f (by omega)))] at h7; omega
        · rw [up2_rd, if_neg (by omega)]; exact hY y c4 c7
        · rw [up2_na hc]; exact hC c hc
    · refine ok_iloadn (pc' := 7) i170_6 rfl rfl <| ok_bipush (v := 57) (pc' := 9) i170_7 rfl rfl <| ?_
      refine ok_cgt (pc1 := 16) (pc2 := 12) i170_9 (by omega) rfl rfl (fun h5 => ?_) (fun h5 => ?_)
      · refine ok_iconst (pc' := 17) i170_16 rfl <| ok_iretz i170_17 rt170 (by decide) <| kt_v (pc' := 139) rfl <| ok_kz1 (pc1 := 195) (pc2 := 142) i167_139 (by decide) rfl rfl <| ok_aloadn (pc' := 196) i167_195 rfl rfl <| ok_aloadn (pc' := 197) i167_196 rfl rfl <| ok_getfi (v := x) (pc' := 200) i167_197 o167 gi9_83 (ShModel_k0 hSO) h18 rfl <| ok_aloadn (pc' := 201) i167_200 rfl rfl <| ?_
        refine ok_getfi (v := st) (pc' := 204) i167_201 o167 gi9_90 (ShModel_k0 hSO) h19 rfl <| ok_isub (v := (x - st)) (pc' := 205) i167_204 rfl rfl <| ok_iconst (pc' := 206) i167_205 rfl <| ?_
        refine ok_cle (pc1 := 213) (pc2 := 209) i167_206 (by omega) rfl rfl (fun h6 => ?_) (fun h6 => ?_)
        · refine ok_iconst (pc' := 214) i167_213 rfl <| ok_putfj (kk := 20) (pc' := 217) i167_214 o167 pi167_93 (ShModel_k0 hSO) rfl rfl <| ok_goto (pc' := 245) i167_217 rfl <| ok_vret i167_245 rt167 <| ?_
          refine ⟨rfl, rfl, ?_, ?_, ?_, fun y c4 c6 c7 => ?_, fun c hc => ?_⟩
          · rw [rd_ni (by decide) rfl, h18, hr, run_end (Or.inr (pD_f (by omega)))]
          · rw [rd_eq, hr, run_end (Or.inr (pD_f (by omega))), if_pos (by omega)]
          · intro h7; rw [rd_ni (by decide) rfl, h21, hr, run_end (Or.inr (pD_f (by omega))), if_pos (by omega)]
          · rw [up2_rd, if_neg (by omega)]; exact hY y c4 c7
          · rw [up2_na hc]; exact hC c hc
        · refine ok_iconst (pc' := 210) i167_209 rfl <| ok_goto (pc' := 214) i167_210 rfl <| ok_putfj (kk := 20) (pc' := 217) i167_214 o167 pi167_93 (ShModel_k0 hSO) rfl rfl <| ok_goto (pc' := 245) i167_217 rfl <| ok_vret i167_245 rt167 <| ?_
          refine ⟨rfl, rfl, ?_, ?_, ?_, fun y c4 c6 c7 => ?_, fun c hc => ?_⟩
          · rw [rd_ni (by decide) rfl, h18, hr, run_end (Or.inr (pD_f (by omega)))]
          · rw [rd_eq, hr, run_end (Or.inr (pD_f (by omega))), if_neg (by omega)]
          · intro h7; rw [hr, run_end (Or.inr (pD_f (by omega)))] at h7; omega
          · rw [up2_rd, if_neg (by omega)]; exact hY y c4 c7
          · rw [up2_na hc]; exact hC c hc
      · refine ok_iconst (pc' := 13) i170_12 rfl <| ok_goto (pc' := 17) i170_13 rfl <| ok_iretz i170_17 rt170 (by decide) <| kt_v (pc' := 139) rfl <| ok_kz0 (pc1 := 195) (pc2 := 142) i167_139 (by decide) rfl rfl <| ok_aloadn (pc' := 143) i167_142 rfl rfl <| ok_aloadn (pc' := 144) i167_143 rfl rfl <| ok_getfi (v := x) (pc' := 147) i167_144 o167 gi9_83 (ShModel_k0 hSO) h18 rfl <| ?_
        refine ok_aloadn (pc' := 148) i167_147 rfl rfl <| ok_getfi (v := st) (pc' := 151) i167_148 o167 gi9_90 (ShModel_k0 hSO) h19 rfl <| ok_isub (v := (x - st)) (pc' := 152) i167_151 rfl rfl <| ok_iconst (pc' := 153) i167_152 rfl <| ?_
        refine ok_cge (pc1 := 178) (pc2 := 156) i167_153 (by omega) rfl rfl (fun h7 => ?_) (fun h7 => ?_)
        · refine ok_iconst (pc' := 179) i167_178 rfl <| ok_putfj (kk := 21) (pc' := 182) i167_179 o167 pi167_103 (ShModel_k0 hSO) rfl rfl <| ok_aloadn (pc' := 183) i167_182 rfl rfl <| ok_dup (pc' := 184) i167_183 rfl rfl <| ok_getfi (v := x) (pc' := 187) i167_184 o167 gi9_83 (ShModel_k0 hSO) (rd_ni (by decide) h18) rfl <| ok_iconst (pc' := 188) i167_187 rfl <| ok_iadd (v := (x + 1)) (pc' := 189) i167_188 rfl rfl <| ok_putfj (kk := 18) (pc' := 192) i167_189 o167 pi167_83 (ShModel_k0 hSO) rfl rfl <| ?_
          refine ok_goto (pc' := 128) i167_192 rfl <| ?_
          refine ih (x + 1) _ _ (by omega) ⟨by omega, by rw [hr, run_go (by omega) (pD_t (by omega))], ?_, ?_, ?_, ?_, rfl⟩
          · exact rd_eq
          · rw [rd_ni (by decide) rd_eq, if_neg (by omega)]
          · intro y c4 c7; rw [up2_rd, if_neg (by omega), up2_rd, if_neg (by omega)]; exact hY y c4 c7
          · intro c hc; rw [up2_na hc, up2_na hc]; exact hC c hc
        · refine ok_bipush (v := 10) (pc' := 158) i167_156 rfl rfl <| ok_aloadn (pc' := 159) i167_158 rfl rfl <| ok_getfi (v := (if x - st ≤ 3 then numV by_ st x else 0)) (pc' := 162) i167_159 o167 gi9_103 (ShModel_k0 hSO) h21 rfl <| ok_imul (v := (10 * (if x - st ≤ 3 then numV by_ st x else 0))) (pc' := 163) i167_162 rfl rfl <| ok_aloadn (pc' := 164) i167_163 rfl rfl <| ok_aloadn (pc' := 165) i167_164 rfl rfl <| ok_getfi (v := x) (pc' := 168) i167_165 o167 gi9_83 (ShModel_k0 hSO) h18 rfl <| ok_cc i167_168 rfl (cl_v o167 m9_86 na168 rfl rfl (bt rfl) (bt rfl) rfl (by rw [ShModel_k0 hSO, o168])) ln168 (pd168 (aR O) (aI x)) <| ?_
          refine ok_iloadn (pc' := 1) i168_0 rfl rfl <| ok_aloadn (pc' := 2) i168_1 rfl rfl <| ok_getfi (v := n) (pc' := 5) i168_2 o168 gi9_80 (ShModel_k0 hSO) h17 rfl <| ?_
          refine ok_cge (pc1 := 17) (pc2 := 8) i168_5 (by omega) rfl rfl (fun h9 => by exfalso; omega) (fun h8 => ?_)
          refine ok_aloadn (pc' := 9) i168_8 rfl rfl <| ok_getfr (r := (O + 8)) (pc' := 12) i168_9 o168 gr9_32 (ShModel_k0 hSO) (ShModel_r12 hSO) rfl <| ok_iloadn (pc' := 13) i168_12 rfl rfl <| ?_
          have u_x : ub by_ x = by_ x % 256 ∧ -128 ≤ by_ x ∧ by_ x < 128 := ⟨rfl, (hU9 x (by omega) (by omega)).2⟩
          refine ok_iaload (v := (ub by_ x)) (pc' := 14) i168_13 (ShModel_k8 hSO) (by decide) (ShModel_l8 hSO) (by omega) (hU9 x (by omega) (by omega)).1 rfl <| ok_goto (pc' := 18) i168_14 rfl <| ok_ireti i168_18 rt168 <| kt_v (pc' := 171) rfl <| ok_iadd (v := ((10 * (if x - st ≤ 3 then numV by_ st x else 0)) + (ub by_ x))) (pc' := 172) i167_171 rfl rfl <| ok_bipush (v := 48) (pc' := 174) i167_172 rfl rfl <| ok_isub (v := (((10 * (if x - st ≤ 3 then numV by_ st x else 0)) + (ub by_ x)) - 48)) (pc' := 175) i167_174 rfl rfl <| ok_goto (pc' := 179) i167_175 rfl <| ?_
          refine ok_putfj (kk := 21) (pc' := 182) i167_179 o167 pi167_103 (ShModel_k0 hSO) rfl rfl <| ok_aloadn (pc' := 183) i167_182 rfl rfl <| ok_dup (pc' := 184) i167_183 rfl rfl <| ok_getfi (v := x) (pc' := 187) i167_184 o167 gi9_83 (ShModel_k0 hSO) (rd_ni (by decide) h18) rfl <| ok_iconst (pc' := 188) i167_187 rfl <| ok_iadd (v := (x + 1)) (pc' := 189) i167_188 rfl rfl <| ok_putfj (kk := 18) (pc' := 192) i167_189 o167 pi167_83 (ShModel_k0 hSO) rfl rfl <| ok_goto (pc' := 128) i167_192 rfl <| ?_
          refine ih (x + 1) _ _ (by omega) ⟨by omega, by rw [hr, run_go (by omega) (pD_t (by omega))], ?_, ?_, ?_, ?_, rfl⟩
          · exact rd_eq
          · rw [rd_ni (by decide) rd_eq, if_pos (by omega), numV_step (by omega)]; rw [if_pos (by omega)]; omega
          · intro y c4 c7; rw [up2_rd, if_neg (by omega), up2_rd, if_neg (by omega)]; exact hY y c4 c7
          · intro c hc; rw [up2_na hc, up2_na hc]; exact hC c hc
theorem t167 {g : AG} {M : AM} {O : Nat} {by_ : Int → Int} {n a : Int} (hSO : ShModel g O) (hU : InU M O by_) (j17 : M O 17 = n) (hn : 0 ≤ n ∧ n ≤ 700) (ha : 0 ≤ a ∧ a ≤ n) (j18 : M O 18 = a) :
    Ok 1 167 0 [aR O, aU] [] g M (Rt none g (fun M9 => M9 O 18 = enS by_ n a ∧ M9 O 19 = stS by_ n a ∧ M9 O 20 = srt (tyS by_ n a) ∧ (tyS by_ n a = 1 → M9 O 21 = vaS by_ n a) ∧ (∀ y : Int, y ≠ 18 → y ≠ 19 → y ≠ 20 → y ≠ 21 → M9 O y = M O y) ∧ ∀ c, c ≠ O → M9 c = M c)) := by
  refine ok_while (σ := Int) (fun x ls M9 => (a ≤ x ∧ x ≤ n) ∧ run pB by_ n a = run pB by_ n x ∧ M9 = up2 M O 18 x ∧ ls = [aR O, aU]) (fun x => (n - x).toNat) ?_ a _ M ⟨by omega, rfl, (up2_self j18).symm, rfl⟩
  rintro x ls M9 ⟨hx, hr, hM, rfl⟩ ih
  have h17 : M9 O 17 = n := by rw [hM]; exact rd_ni (by decide) j17
  have h18 : M9 O 18 = x := by rw [hM]; exact rd_eq
  have hU9 : InU M9 O by_ := fun i h0 h1 => by rw [hM, up2_na (by omega)]; exact hU i h0 h1
  refine ok_aloadn (pc' := 1) i167_0 rfl rfl <| ok_aloadn (pc' := 2) i167_1 rfl rfl <| ok_getfi (v := x) (pc' := 5) i167_2 o167 gi9_83 (ShModel_k0 hSO) h18 rfl <| ok_cc i167_5 rfl (cl_v o167 m9_86 na168 rfl rfl (bt rfl) (bt rfl) rfl (by rw [ShModel_k0 hSO, o168])) ln168 (pd168 (aR O) (aI x)) <| ok_iloadn (pc' := 1) i168_0 rfl rfl <| ok_aloadn (pc' := 2) i168_1 rfl rfl <| ok_getfi (v := n) (pc' := 5) i168_2 o168 gi9_80 (ShModel_k0 hSO) h17 rfl <| ?_
  refine ok_cge (pc1 := 17) (pc2 := 8) i168_5 (by omega) rfl rfl (fun h1 => ?_) (fun h1 => ?_)
  · refine ok_iconst (pc' := 18) i168_17 rfl <| ok_ireti i168_18 rt168 <| kt_v (pc' := 8) rfl <| ok_bipush (v := 32) (pc' := 10) i167_8 rfl rfl <| ok_kc1 (pc1 := 26) (pc2 := 13) i167_10 (by decide) rfl rfl <| ok_aloadn (pc' := 27) i167_26 rfl rfl <| ok_aloadn (pc' := 28) i167_27 rfl rfl <| ok_getfi (v := x) (pc' := 31) i167_28 o167 gi9_83 (ShModel_k0 hSO) h18 rfl <| ?_
    refine ok_putfj (kk := 19) (pc' := 34) i167_31 o167 pi167_90 (ShModel_k0 hSO) rfl rfl <| ok_aloadn (pc' := 35) i167_34 rfl rfl <| ok_aloadn (pc' := 36) i167_35 rfl rfl <| ok_getfi (v := x) (pc' := 39) i167_36 o167 gi9_83 (ShModel_k0 hSO) (rd_ni (by decide) h18) rfl <| ok_cc i167_39 rfl (cl_v o167 m9_86 na168 rfl rfl (bt rfl) (bt rfl) rfl (by rw [ShModel_k0 hSO, o168])) ln168 (pd168 (aR O) (aI x)) <| ok_iloadn (pc' := 1) i168_0 rfl rfl <| ok_aloadn (pc' := 2) i168_1 rfl rfl <| ok_getfi (v := n) (pc' := 5) i168_2 o168 gi9_80 (ShModel_k0 hSO) (rd_ni (by decide) h17) rfl <| ?_
    refine ok_cge (pc1 := 17) (pc2 := 8) i168_5 (by omega) rfl rfl (fun h2 => ?_) (fun h9 => by exfalso; omega)
    refine ok_iconst (pc' := 18) i168_17 rfl <| ok_ireti i168_18 rt168 <| kt_v (pc' := 42) rfl <| ok_istoren (pc' := 43) (ls' := [aR O, aI (-1)]) i167_42 (bt rfl) rfl rfl <| ok_iloadn (pc' := 44) i167_43 rfl rfl <| ok_iconst (pc' := 45) i167_44 rfl <| ok_kc0 (pc1 := 56) (pc2 := 48) i167_45 (by decide) rfl rfl <| ok_aloadn (pc' := 49) i167_48 rfl rfl <| ?_
    refine ok_iconst (pc' := 50) i167_49 rfl <| ok_putfj (kk := 20) (pc' := 53) i167_50 o167 pi167_93 (ShModel_k0 hSO) rfl rfl <| ok_goto (pc' := 245) i167_53 rfl <| ok_vret i167_245 rt167 <| ?_
    have e1 : stS by_ n a = x := by unfold stS; rw [hr, run_end (Or.inl (by omega))]
    have e2 : enS by_ n a = x := by unfold enS; rw [e1, if_pos (by omega)]
    have e3 : tyS by_ n a = 3 := by unfold tyS; rw [e1, if_pos (by omega)]
    refine ⟨rfl, rfl, ?_, ?_, ?_, fun h => by omega, fun y c4 c5 c6 c7 => ?_, fun c hc => ?_⟩
    · rw [e2]; exact rd_ni (by decide) (rd_ni (by decide) h18)
    · rw [e1]; exact rd_ni (by decide) rd_eq
    · rw [e3]; exact rd_eq
    · rw [up2_rd, if_neg (by omega), up2_rd, if_neg (by omega), hM, up2_rd, if_neg (by omega)]
    · rw [up2_na hc, up2_na hc, hM, up2_na hc]
  · refine ok_aloadn (pc' := 9) i168_8 rfl rfl <| ok_getfr (r := (O + 8)) (pc' := 12) i168_9 o168 gr9_32 (ShModel_k0 hSO) (ShModel_r12 hSO) rfl <| ok_iloadn (pc' := 13) i168_12 rfl rfl <| ?_
    have z61 : 0 ≤ (ub by_ x) ∧ (ub by_ x) ≤ 255 := ub_f
    have u_x : ub by_ x = by_ x % 256 ∧ -128 ≤ by_ x ∧ by_ x < 128 := ⟨rfl, (hU9 x (by omega) (by omega)).2⟩
    refine ok_iaload (v := (ub by_ x)) (pc' := 14) i168_13 (ShModel_k8 hSO) (by decide) (ShModel_l8 hSO) (by omega) (hU9 x (by omega) (by omega)).1 rfl <| ok_goto (pc' := 18) i168_14 rfl <| ok_ireti i168_18 rt168 <| kt_v (pc' := 8) rfl <| ok_bipush (v := 32) (pc' := 10) i167_8 rfl rfl <| ?_
    refine ok_cne (pc1 := 26) (pc2 := 13) i167_10 (by omega) rfl rfl (fun h3 => ?_) (fun h3 => ?_)
    · refine ok_aloadn (pc' := 27) i167_26 rfl rfl <| ok_aloadn (pc' := 28) i167_27 rfl rfl <| ok_getfi (v := x) (pc' := 31) i167_28 o167 gi9_83 (ShModel_k0 hSO) h18 rfl <| ok_putfj (kk := 19) (pc' := 34) i167_31 o167 pi167_90 (ShModel_k0 hSO) rfl rfl <| ok_aloadn (pc' := 35) i167_34 rfl rfl <| ok_aloadn (pc' := 36) i167_35 rfl rfl <| ok_getfi (v := x) (pc' := 39) i167_36 o167 gi9_83 (ShModel_k0 hSO) (rd_ni (by decide) h18) rfl <| ok_cc i167_39 rfl (cl_v o167 m9_86 na168 rfl rfl (bt rfl) (bt rfl) rfl (by rw [ShModel_k0 hSO, o168])) ln168 (pd168 (aR O) (aI x)) <| ?_
      refine ok_iloadn (pc' := 1) i168_0 rfl rfl <| ok_aloadn (pc' := 2) i168_1 rfl rfl <| ok_getfi (v := n) (pc' := 5) i168_2 o168 gi9_80 (ShModel_k0 hSO) (rd_ni (by decide) h17) rfl <| ?_
      refine ok_cge (pc1 := 17) (pc2 := 8) i168_5 (by omega) rfl rfl (fun h9 => by exfalso; omega) (fun h4 => ?_)
      refine ok_aloadn (pc' := 9) i168_8 rfl rfl <| ok_getfr (r := (O + 8)) (pc' := 12) i168_9 o168 gr9_32 (ShModel_k0 hSO) (ShModel_r12 hSO) rfl <| ok_iloadn (pc' := 13) i168_12 rfl rfl <| ?_
      have u_x : ub by_ x = by_ x % 256 ∧ -128 ≤ by_ x ∧ by_ x < 128 := ⟨rfl, (hU9 x (by omega) (by omega)).2⟩
      refine ok_iaload (v := (ub by_ x)) (pc' := 14) i168_13 (ShModel_k8 hSO) (by decide) (ShModel_l8 hSO) (by omega) (rd_na (by omega) (hU9 x (by omega) (by omega)).1) rfl <| ok_goto (pc' := 18) i168_14 rfl <| ok_ireti i168_18 rt168 <| kt_v (pc' := 42) rfl <| ok_istoren (pc' := 43) (ls' := [aR O, aI (ub by_ x)]) i167_42 (bt rfl) rfl rfl <| ok_iloadn (pc' := 44) i167_43 rfl rfl <| ok_iconst (pc' := 45) i167_44 rfl <| ?_
      refine ok_cne (pc1 := 56) (pc2 := 48) i167_45 (by omega) rfl rfl (fun h5 => ?_) (fun h9 => by exfalso; omega)
      refine ok_iloadn (pc' := 57) i167_56 rfl rfl <| ok_cc i167_57 rfl (cl_s o167 m9_96 na169 rfl rfl (bt rfl) (bt rfl) rfl) ln169 (pd169 (aI (ub by_ x))) <| ok_iloadn (pc' := 1) i169_0 rfl rfl <| ok_bipush (v := 97) (pc' := 3) i169_1 rfl rfl <| ?_
      refine ok_clt (pc1 := 16) (pc2 := 6) i169_3 (by omega) rfl rfl (fun h6 => ?_) (fun h6 => ?_)
      · refine ok_iconst (pc' := 17) i169_16 rfl <| ok_iretz i169_17 rt169 (by decide) <| kt_v (pc' := 60) rfl <| ok_kz1 (pc1 := 116) (pc2 := 63) i167_60 (by decide) rfl rfl <| ok_iloadn (pc' := 117) i167_116 rfl rfl <| ok_cc i167_117 rfl (cl_s o167 m9_100 na170 rfl rfl (bt rfl) (bt rfl) rfl) ln170 (pd170 (aI (ub by_ x))) <| ok_iloadn (pc' := 1) i170_0 rfl rfl <| ok_bipush (v := 48) (pc' := 3) i170_1 rfl rfl <| ?_
        refine ok_clt (pc1 := 16) (pc2 := 6) i170_3 (by omega) rfl rfl (fun h7 => ?_) (fun h7 => ?_)
        · refine ok_iconst (pc' := 17) i170_16 rfl <| ok_iretz i170_17 rt170 (by decide) <| kt_v (pc' := 120) rfl <| ok_kz1 (pc1 := 220) (pc2 := 123) i167_120 (by decide) rfl rfl <| ok_aloadn (pc' := 221) i167_220 rfl rfl <| ok_iloadn (pc' := 222) i167_221 rfl rfl <| ok_bipush (v := 59) (pc' := 224) i167_222 rfl rfl <| ?_
          refine ok_cne (pc1 := 231) (pc2 := 227) i167_224 (by omega) rfl rfl (fun h8 => ?_) (fun h9 => by exfalso; omega)
          refine ok_iconst (pc' := 232) i167_231 rfl <| ok_putfj (kk := 20) (pc' := 235) i167_232 o167 pi167_93 (ShModel_k0 hSO) rfl rfl <| ok_aloadn (pc' := 236) i167_235 rfl rfl <| ok_dup (pc' := 237) i167_236 rfl rfl <| ok_getfi (v := x) (pc' := 240) i167_237 o167 gi9_83 (ShModel_k0 hSO) (rd_ni (by decide) (rd_ni (by decide) h18)) rfl <| ok_iconst (pc' := 241) i167_240 rfl <| ok_iadd (v := (x + 1)) (pc' := 242) i167_241 rfl rfl <| ok_putfj (kk := 18) (pc' := 245) i167_242 o167 pi167_83 (ShModel_k0 hSO) rfl rfl <| ?_
          refine ok_vret i167_245 rt167 <| ?_
          have e1 : stS by_ n a = x := by unfold stS; rw [hr, run_end (Or.inr (pB_f (by omega)))]
          have hl : ¬ pL (by_ x) = true := by rw [pL_f (by omega)]; decide
          have hd : ¬ pD (by_ x) = true := by rw [pD_f (by omega)]; decide
          have e2 : enS by_ n a = x + 1 := by unfold enS; rw [e1, if_neg (by omega), if_neg hl, if_neg hd]
          have e3 : tyS by_ n a = 4 := by unfold tyS; rw [e1, if_neg (by omega), if_neg hl, if_neg hd, if_neg (by omega)]
          refine ⟨rfl, rfl, ?_, ?_, ?_, fun h => by omega, fun y c4 c5 c6 c7 => ?_, fun c hc => ?_⟩
          · rw [e2]; exact rd_eq
          · rw [e1]; exact rd_ni (by decide) (rd_ni (by decide) rd_eq)
          · rw [e3]; exact rd_ni (by decide) rd_eq
          · rw [up2_rd, if_neg (by omega), up2_rd, if_neg (by omega), up2_rd, if_neg (by omega), hM, up2_rd, if_neg (by omega)]
          · rw [up2_na hc, up2_na hc, up2_na hc, hM, up2_na hc]
        · refine ok_iloadn (pc' := 7) i170_6 rfl rfl <| ok_bipush (v := 57) (pc' := 9) i170_7 rfl rfl <| ?_
          refine ok_cgt (pc1 := 16) (pc2 := 12) i170_9 (by omega) rfl rfl (fun h9 => ?_) (fun h9 => ?_)
          · refine ok_iconst (pc' := 17) i170_16 rfl <| ok_iretz i170_17 rt170 (by decide) <| kt_v (pc' := 120) rfl <| ok_kz1 (pc1 := 220) (pc2 := 123) i167_120 (by decide) rfl rfl <| ok_aloadn (pc' := 221) i167_220 rfl rfl <| ok_iloadn (pc' := 222) i167_221 rfl rfl <| ok_bipush (v := 59) (pc' := 224) i167_222 rfl rfl <| ?_
            refine ok_cne (pc1 := 231) (pc2 := 227) i167_224 (by omega) rfl rfl (fun h10 => ?_) (fun h10 => ?_)
            · refine ok_iconst (pc' := 232) i167_231 rfl <| ok_putfj (kk := 20) (pc' := 235) i167_232 o167 pi167_93 (ShModel_k0 hSO) rfl rfl <| ok_aloadn (pc' := 236) i167_235 rfl rfl <| ok_dup (pc' := 237) i167_236 rfl rfl <| ok_getfi (v := x) (pc' := 240) i167_237 o167 gi9_83 (ShModel_k0 hSO) (rd_ni (by decide) (rd_ni (by decide) h18)) rfl <| ok_iconst (pc' := 241) i167_240 rfl <| ok_iadd (v := (x + 1)) (pc' := 242) i167_241 rfl rfl <| ok_putfj (kk := 18) (pc' := 245) i167_242 o167 pi167_83 (ShModel_k0 hSO) rfl rfl <| ?_
              refine ok_vret i167_245 rt167 <| ?_
              have e1 : stS by_ n a = x := by unfold stS; rw [hr, run_end (Or.inr (pB_f (by omega)))]
              have hl : ¬ pL (by_ x) = true := by rw [pL_f (by omega)]; decide
              have hd : ¬ pD (by_ x) = true := by rw [pD_f (by omega)]; decide
              have e2 : enS by_ n a = x + 1 := by unfold enS; rw [e1, if_neg (by omega), if_neg hl, if_neg hd]
              have e3 : tyS by_ n a = 4 := by unfold tyS; rw [e1, if_neg (by omega), if_neg hl, if_neg hd, if_neg (by omega)]
              refine ⟨rfl, rfl, ?_, ?_, ?_, fun h => by omega, fun y c4 c5 c6 c7 => ?_, fun c hc => ?_⟩
              · rw [e2]; exact rd_eq
              · rw [e1]; exact rd_ni (by decide) (rd_ni (by decide) rd_eq)
              · rw [e3]; exact rd_ni (by decide) rd_eq
              · rw [up2_rd, if_neg (by omega), up2_rd, if_neg (by omega), up2_rd, if_neg (by omega), hM, up2_rd, if_neg (by omega)]
              · rw [up2_na hc, up2_na hc, up2_na hc, hM, up2_na hc]
            · refine ok_iconst (pc' := 228) i167_227 rfl <| ok_goto (pc' := 232) i167_228 rfl <| ok_putfj (kk := 20) (pc' := 235) i167_232 o167 pi167_93 (ShModel_k0 hSO) rfl rfl <| ok_aloadn (pc' := 236) i167_235 rfl rfl <| ok_dup (pc' := 237) i167_236 rfl rfl <| ok_getfi (v := x) (pc' := 240) i167_237 o167 gi9_83 (ShModel_k0 hSO) (rd_ni (by decide) (rd_ni (by decide) h18)) rfl <| ok_iconst (pc' := 241) i167_240 rfl <| ok_iadd (v := (x + 1)) (pc' := 242) i167_241 rfl rfl <| ?_
              refine ok_putfj (kk := 18) (pc' := 245) i167_242 o167 pi167_83 (ShModel_k0 hSO) rfl rfl <| ok_vret i167_245 rt167 <| ?_
              have e1 : stS by_ n a = x := by unfold stS; rw [hr, run_end (Or.inr (pB_f (by omega)))]
              have hl : ¬ pL (by_ x) = true := by rw [pL_f (by omega)]; decide
              have hd : ¬ pD (by_ x) = true := by rw [pD_f (by omega)]; decide
              have e2 : enS by_ n a = x + 1 := by unfold enS; rw [e1, if_neg (by omega), if_neg hl, if_neg hd]
              have e3 : tyS by_ n a = 2 := by unfold tyS; rw [e1, if_neg (by omega), if_neg hl, if_neg hd, if_pos (by omega)]
              refine ⟨rfl, rfl, ?_, ?_, ?_, fun h => by omega, fun y c4 c5 c6 c7 => ?_, fun c hc => ?_⟩
              · rw [e2]; exact rd_eq
              · rw [e1]; exact rd_ni (by decide) (rd_ni (by decide) rd_eq)
              · rw [e3]; exact rd_ni (by decide) rd_eq
              · rw [up2_rd, if_neg (by omega), up2_rd, if_neg (by omega), up2_rd, if_neg (by omega), hM, up2_rd, if_neg (by omega)]
              · rw [up2_na hc, up2_na hc, up2_na hc, hM, up2_na hc]
          · refine ok_iconst (pc' := 13) i170_12 rfl <| ok_goto (pc' := 17) i170_13 rfl <| ok_iretz i170_17 rt170 (by decide) <| kt_v (pc' := 120) rfl <| ok_kz0 (pc1 := 220) (pc2 := 123) i167_120 (by decide) rfl rfl <| ok_aloadn (pc' := 124) i167_123 rfl rfl <| ok_iconst (pc' := 125) i167_124 rfl <| ok_putfj (kk := 21) (pc' := 128) i167_125 o167 pi167_103 (ShModel_k0 hSO) rfl rfl <| ?_
            have e1 : stS by_ n a = x := by unfold stS; rw [hr, run_end (Or.inr (pB_f (by omega)))]
            have hl : ¬ pL (by_ x) = true := by rw [pL_f (by omega)]; decide
            have hd : pD (by_ x) = true := pD_t (by omega)
            refine (w167_128 (M := (up2 (up2 M9 O 19 x) O 21 0)) (a := x) (st := x) hSO (fun i h0 h1 => by rw [up2_na (by omega), up2_na (by omega)]; exact hU9 i h0 h1) (rd_ni (by decide) (rd_ni (by decide) h17)) hn (by omega) (rd_ni (by decide) (rd_ni (by decide) h18)) (rd_ni (by decide) rd_eq) rfl rd_eq).mono (fun o g1 M1 h => ?_)
            obtain ⟨q1, q2, q3⟩ := h
            have e2 : enS by_ n a = run pD by_ n x := by unfold enS; rw [e1, if_neg (by omega), if_neg hl, if_pos hd]
            have e3 : tyS by_ n a = (if run pD by_ n x - x ≤ 3 then 1 else 4) := by unfold tyS; rw [e1, if_neg (by omega), if_neg hl, if_pos hd]
            refine ⟨q1, q2, by rw [e2]; exact q3.1, ?_, ?_, fun h => ?_, fun y c4 c5 c6 c7 => (q3.2.2.2.1 y c4 c6 c7).trans ?_, fun c hc => (q3.2.2.2.2 c hc).trans ?_⟩
            · rw [e1]; exact (q3.2.2.2.1 19 (by decide) (by decide) (by decide)).trans (rd_ni (by decide) rd_eq)
            · rw [e3, q3.2.1]; unfold srt; split <;> simp
            · unfold vaS; rw [e1]; refine q3.2.2.1 ?_; rw [e3] at h; split at h <;> omega
            · rw [up2_rd, if_neg (by omega), up2_rd, if_neg (by omega), hM, up2_rd, if_neg (by omega)]
            · rw [up2_na hc, up2_na hc, hM, up2_na hc]
      · refine ok_iloadn (pc' := 7) i169_6 rfl rfl <| ok_bipush (v := 122) (pc' := 9) i169_7 rfl rfl <| ?_
        refine ok_cgt (pc1 := 16) (pc2 := 12) i169_9 (by omega) rfl rfl (fun h11 => ?_) (fun h11 => ?_)
        · refine ok_iconst (pc' := 17) i169_16 rfl <| ok_iretz i169_17 rt169 (by decide) <| kt_v (pc' := 60) rfl <| ok_kz1 (pc1 := 116) (pc2 := 63) i167_60 (by decide) rfl rfl <| ok_iloadn (pc' := 117) i167_116 rfl rfl <| ok_cc i167_117 rfl (cl_s o167 m9_100 na170 rfl rfl (bt rfl) (bt rfl) rfl) ln170 (pd170 (aI (ub by_ x))) <| ok_iloadn (pc' := 1) i170_0 rfl rfl <| ok_bipush (v := 48) (pc' := 3) i170_1 rfl rfl <| ?_
          refine ok_clt (pc1 := 16) (pc2 := 6) i170_3 (by omega) rfl rfl (fun h9 => by exfalso; omega) (fun h12 => ?_)
          refine ok_iloadn (pc' := 7) i170_6 rfl rfl <| ok_bipush (v := 57) (pc' := 9) i170_7 rfl rfl <| ?_
          refine ok_cgt (pc1 := 16) (pc2 := 12) i170_9 (by omega) rfl rfl (fun h13 => ?_) (fun h9 => by exfalso; omega)
          refine ok_iconst (pc' := 17) i170_16 rfl <| ok_iretz i170_17 rt170 (by decide) <| kt_v (pc' := 120) rfl <| ok_kz1 (pc1 := 220) (pc2 := 123) i167_120 (by decide) rfl rfl <| ok_aloadn (pc' := 221) i167_220 rfl rfl <| ok_iloadn (pc' := 222) i167_221 rfl rfl <| ok_bipush (v := 59) (pc' := 224) i167_222 rfl rfl <| ?_
          refine ok_cne (pc1 := 231) (pc2 := 227) i167_224 (by omega) rfl rfl (fun h14 => ?_) (fun h9 => by exfalso; omega)
          refine ok_iconst (pc' := 232) i167_231 rfl <| ok_putfj (kk := 20) (pc' := 235) i167_232 o167 pi167_93 (ShModel_k0 hSO) rfl rfl <| ok_aloadn (pc' := 236) i167_235 rfl rfl <| ok_dup (pc' := 237) i167_236 rfl rfl <| ok_getfi (v := x) (pc' := 240) i167_237 o167 gi9_83 (ShModel_k0 hSO) (rd_ni (by decide) (rd_ni (by decide) h18)) rfl <| ok_iconst (pc' := 241) i167_240 rfl <| ok_iadd (v := (x + 1)) (pc' := 242) i167_241 rfl rfl <| ok_putfj (kk := 18) (pc' := 245) i167_242 o167 pi167_83 (ShModel_k0 hSO) rfl rfl <| ?_
          refine ok_vret i167_245 rt167 <| ?_
          have e1 : stS by_ n a = x := by unfold stS; rw [hr, run_end (Or.inr (pB_f (by omega)))]
          have hl : ¬ pL (by_ x) = true := by rw [pL_f (by omega)]; decide
          have hd : ¬ pD (by_ x) = true := by rw [pD_f (by omega)]; decide
          have e2 : enS by_ n a = x + 1 := by unfold enS; rw [e1, if_neg (by omega), if_neg hl, if_neg hd]
          have e3 : tyS by_ n a = 4 := by unfold tyS; rw [e1, if_neg (by omega), if_neg hl, if_neg hd, if_neg (by omega)]
          refine ⟨rfl, rfl, ?_, ?_, ?_, fun h => by omega, fun y c4 c5 c6 c7 => ?_, fun c hc => ?_⟩
          · rw [e2]; exact rd_eq
          · rw [e1]; exact rd_ni (by decide) (rd_ni (by decide) rd_eq)
          · rw [e3]; exact rd_ni (by decide) rd_eq
          · rw [up2_rd, if_neg (by omega), up2_rd, if_neg (by omega), up2_rd, if_neg (by omega), hM, up2_rd, if_neg (by omega)]
          · rw [up2_na hc, up2_na hc, up2_na hc, hM, up2_na hc]
        · refine ok_iconst (pc' := 13) i169_12 rfl <| ok_goto (pc' := 17) i169_13 rfl <| ok_iretz i169_17 rt169 (by decide) <| kt_v (pc' := 60) rfl <| ok_kz0 (pc1 := 116) (pc2 := 63) i167_60 (by decide) rfl rfl <| ?_
          have e1 : stS by_ n a = x := by unfold stS; rw [hr, run_end (Or.inr (pB_f (by omega)))]
          have hl : pL (by_ x) = true := pL_t (by omega)
          refine (w167_63 (M := (up2 M9 O 19 x)) (a := x) (st := x) hSO (fun i h0 h1 => by rw [up2_na (by omega)]; exact hU9 i h0 h1) (rd_ni (by decide) h17) hn (by omega) (rd_ni (by decide) h18) rd_eq (by omega)).mono (fun o g1 M1 h => ?_)
          obtain ⟨q1, q2, q3⟩ := h
          have e2 : enS by_ n a = run pL by_ n x := by unfold enS; rw [e1, if_neg (by omega), if_pos hl]
          have e3 : tyS by_ n a = (if run pL by_ n x - x ≤ 8 then 0 else 4) := by unfold tyS; rw [e1, if_neg (by omega), if_pos hl]
          refine ⟨q1, q2, ?_, ?_, ?_, fun h => by rw [e3] at h; split at h <;> omega, fun y c4 c5 c6 c7 => ?_, fun c hc => ?_⟩
          · rw [e2, q3]; exact rd_ni (by decide) rd_eq
          · rw [e1, q3]; exact rd_ni (by decide) (rd_ni (by decide) rd_eq)
          · rw [e3, q3, rd_eq]; unfold srt; split <;> simp
          · rw [q3, up2_rd, if_neg (by omega), up2_rd, if_neg (by omega)]; rw [up2_rd, if_neg (by omega), hM, up2_rd, if_neg (by omega)]
          · rw [q3, up2_na hc, up2_na hc]; rw [up2_na hc, hM, up2_na hc]
    · refine ok_aloadn (pc' := 14) i167_13 rfl rfl <| ok_dup (pc' := 15) i167_14 rfl rfl <| ok_getfi (v := x) (pc' := 18) i167_15 o167 gi9_83 (ShModel_k0 hSO) h18 rfl <| ok_iconst (pc' := 19) i167_18 rfl <| ok_iadd (v := (x + 1)) (pc' := 20) i167_19 rfl rfl <| ok_putfj (kk := 18) (pc' := 23) i167_20 o167 pi167_83 (ShModel_k0 hSO) rfl rfl <| ok_goto (pc' := 0) i167_23 rfl <| ?_
      exact ih (x + 1) _ _ (by omega) ⟨by omega, by rw [hr, run_go (by omega) (pB_t (by omega))], by rw [hM]; exact up2_up2, rfl⟩
