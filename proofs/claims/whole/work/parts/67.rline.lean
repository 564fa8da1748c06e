/-! WORDS AND LINES: the reference (by program, wip/gen) -/
/-! WORDS AND LINES: the reference -/
theorem wdA_ty {by_ : Int → Int} {n a : Int} {k m : Nat} (h : wdA by_ n k m a ≠ 0) : tyS by_ n a = 0 := by
  unfold wdA wdB at h
  split at h
  · next hc => exact hc.1
  · exact absurd rfl h
def WdsR (g : AG) (M : AM) : Prop := Wds g M 26 28 30 32 34 36 38
theorem o172 : am_oc 172 = 9 := by decide +kernel
theorem rt172 : am_rt 172 = some .boolean := by decide +kernel
theorem m9_119 : am_mlk 9 119 0 1 = true := by decide +kernel
theorem m9_125 : am_mlk 9 125 0 2 = true := by decide +kernel
theorem o178 : am_oc 178 = 9 := by decide +kernel
theorem sr9_161 : (am_sr 9 161).map (fun q => q.2.1) = some 32 := by decide +kernel
theorem m9_129 : am_mlk 9 129 0 172 = true := by decide +kernel
theorem na172 : am_na 172 = 1 := by decide +kernel
theorem nl172 : am_nL 172 = 3 := by decide +kernel
theorem pd172 : ∀ a0 a1 : AV, am_pad 172 [a0, a1] = [a0, a1, aU] := by intros; unfold am_pad; rw [nl172]; rfl
theorem ln172 : 2 ≤ am_nL 172 := by rw [nl172]; decide
theorem sr9_166 : (am_sr 9 166).map (fun q => q.2.1) = some 34 := by decide +kernel
theorem sr9_171 : (am_sr 9 171).map (fun q => q.2.1) = some 36 := by decide +kernel
theorem sr9_176 : (am_sr 9 176).map (fun q => q.2.1) = some 38 := by decide +kernel
theorem rt178 : am_rt 178 = none := by decide +kernel
theorem m9_177 : am_mlk 9 177 0 183 = true := by decide +kernel
theorem na183 : am_na 183 = 0 := by decide +kernel
theorem nl183 : am_nL 183 = 3 := by decide +kernel
theorem pd183 : ∀ a0 : AV, am_pad 183 [a0] = [a0, aU, aU] := by intros; unfold am_pad; rw [nl183]; rfl
theorem ln183 : 1 ≤ am_nL 183 := by rw [nl183]; decide
theorem m9_173 : am_mlk 9 173 0 181 = true := by decide +kernel
theorem na181 : am_na 181 = 0 := by decide +kernel
theorem nl181 : am_nL 181 = 5 := by decide +kernel
theorem pd181 : ∀ a0 : AV, am_pad 181 [a0] = [a0, aU, aU, aU, aU] := by intros; unfold am_pad; rw [nl181]; rfl
theorem ln181 : 1 ≤ am_nL 181 := by rw [nl181]; decide
theorem m9_168 : am_mlk 9 168 0 180 = true := by decide +kernel
theorem na180 : am_na 180 = 0 := by decide +kernel
theorem nl180 : am_nL 180 = 4 := by decide +kernel
theorem pd180 : ∀ a0 : AV, am_pad 180 [a0] = [a0, aU, aU, aU] := by intros; unfold am_pad; rw [nl180]; rfl
theorem ln180 : 1 ≤ am_nL 180 := by rw [nl180]; decide
theorem m9_163 : am_mlk 9 163 0 179 = true := by decide +kernel
theorem na179 : am_na 179 = 0 := by decide +kernel
theorem nl179 : am_nL 179 = 4 := by decide +kernel
theorem pd179 : ∀ a0 : AV, am_pad 179 [a0] = [a0, aU, aU, aU] := by intros; unfold am_pad; rw [nl179]; rfl
theorem ln179 : 1 ≤ am_nL 179 := by rw [nl179]; decide
theorem t172 {g : AG} {M : AM} {O c m : Nat} {by_ tx : Int → Int} {n st en ty : Int} (hSO : ShModel g O) (hU : InU M O by_) (hW : Wd g M c m tx) (hn : 0 ≤ n ∧ n ≤ 700) (j17 : M O 17 = n) (j18 : M O 18 = en) (j19 : M O 19 = st) (j20 : M O 20 = srt ty) (j22 : M O 22 = 0) (hse : 0 ≤ st ∧ st ≤ en) (hen : en ≤ n) (ht0 : 0 ≤ ty ∧ ty ≤ 4) :
    Ok 4 172 0 [aR O, aR c, aU] [] g M (Rt (some (aI (wdB by_ tx m st en ty))) g (fun M9 => M9 = M)) := by
  obtain ⟨l, hl⟩ : ∃ l : Int, (m : Int) = l := ⟨_, rfl⟩
  have hl0 : 0 ≤ l ∧ l ≤ 8 := by have := hW.2.1; omega
  have hSc := hW.1
  have hs0 := (srt_f ht0).1
  refine ok_aloadn (pc' := 1) i172_0 rfl rfl <| ok_getfi (v := 0) (pc' := 4) i172_1 o172 gi9_106 (ShModel_k0 hSO) j22 rfl <| ok_kz0 (pc1 := 31) (pc2 := 7) i172_4 (by decide) rfl rfl <| ok_aloadn (pc' := 8) i172_7 rfl rfl <| ok_getfi (v := (srt ty)) (pc' := 11) i172_8 o172 gi9_93 (ShModel_k0 hSO) j20 rfl <| ok_iconst (pc' := 12) i172_11 rfl <| ?_
  refine ok_cne (pc1 := 31) (pc2 := 15) i172_12 (by omega) rfl rfl (fun h21 => ?_) (fun h21 => ?_)
  · refine ok_iconst (pc' := 32) i172_31 rfl <| ok_iretz i172_32 rt172 (by decide) <| ?_
    exact ⟨by rw [show wdB by_ tx m st en ty = 0 from if_neg (by rintro ⟨h7, h8, h9⟩; have := (srt_f ht0).2.2.1.mpr h7; omega)], rfl, rfl⟩
  · refine ok_aloadn (pc' := 16) i172_15 rfl rfl <| ok_getfi (v := en) (pc' := 19) i172_16 o172 gi9_83 (ShModel_k0 hSO) j18 rfl <| ok_aloadn (pc' := 20) i172_19 rfl rfl <| ok_getfi (v := st) (pc' := 23) i172_20 o172 gi9_90 (ShModel_k0 hSO) j19 rfl <| ok_isub (v := (en - st)) (pc' := 24) i172_23 rfl rfl <| ok_aloadn (pc' := 25) i172_24 rfl rfl <| ok_cp (pc' := 28) (d0 := 1) i172_25 rfl (cl_v o172 m9_119 na1 rfl rfl (bt rfl) (bt rfl) rfl (by rw [ShStr_k0 hSc, o1])) ln1 (pd1 (aR c)) (by omega) (t1w hW hl) rfl <| ?_
    refine ok_ceq (pc1 := 33) (pc2 := 31) i172_28 (by omega) rfl rfl (fun h22 => ?_) (fun h22 => ?_)
    · refine ok_iconst (pc' := 34) i172_33 rfl <| ok_istoren (pc' := 35) (ls' := [aR O, aR c, aI 0]) i172_34 (bt rfl) rfl rfl <| ?_
      have hty : ty = 0 := (srt_f ht0).2.2.1.mp (by omega)
      have hel : en - st = l := by omega
      refine ok_while (σ := Int) (fun x ls M9 => (0 ≤ x ∧ x ≤ l) ∧ (∀ i : Int, 0 ≤ i → i < x → by_ (st + i) = tx i) ∧ M9 = M ∧ ls = [aR O, aR c, aI x]) (fun x => (l - x).toNat) ?_ 0 _ M ⟨by omega, fun i h7 h8 => by omega, rfl, rfl⟩
      rintro x ls M9 ⟨hx, hE, hM9, rfl⟩ ih
      rw [hM9]
      refine ok_iloadn (pc' := 36) i172_35 rfl rfl <| ok_aloadn (pc' := 37) i172_36 rfl rfl <| ok_cp (pc' := 40) (d0 := 1) i172_37 rfl (cl_v o172 m9_119 na1 rfl rfl (bt rfl) (bt rfl) rfl (by rw [ShStr_k0 hSc, o1])) ln1 (pd1 (aR c)) (by omega) (t1w hW hl) rfl <| ?_
      refine ok_cge (pc1 := 69) (pc2 := 43) i172_40 (by omega) rfl rfl (fun h21 => ?_) (fun h21 => ?_)
      · refine ok_iconst (pc' := 70) i172_69 rfl <| ok_iretz i172_70 rt172 (by decide) <| ?_
        exact ⟨by rw [show wdB by_ tx m st en ty = 1 from if_pos ⟨hty, by omega, eqW_t m (fun i h7 h8 => hE i h7 (by omega))⟩], rfl, rfl⟩
      · refine ok_aloadn (pc' := 44) i172_43 rfl rfl <| ok_aloadn (pc' := 45) i172_44 rfl rfl <| ok_getfi (v := st) (pc' := 48) i172_45 o172 gi9_90 (ShModel_k0 hSO) j19 rfl <| ok_iloadn (pc' := 49) i172_48 rfl rfl <| ok_iadd (v := (st + x)) (pc' := 50) i172_49 rfl rfl <| ok_cc i172_50 rfl (cl_v o172 m9_86 na168 rfl rfl (bt rfl) (bt rfl) rfl (by rw [ShModel_k0 hSO, o168])) ln168 (pd168 (aR O) (aI (st + x))) <| ok_iloadn (pc' := 1) i168_0 rfl rfl <| ok_aloadn (pc' := 2) i168_1 rfl rfl <| ?_
        refine ok_getfi (v := n) (pc' := 5) i168_2 o168 gi9_80 (ShModel_k0 hSO) j17 rfl <| ?_
        refine ok_cge (pc1 := 17) (pc2 := 8) i168_5 (by omega) rfl rfl (fun h9 => by exfalso; omega) (fun h22 => ?_)
        refine ok_aloadn (pc' := 9) i168_8 rfl rfl <| ok_getfr (r := (O + 8)) (pc' := 12) i168_9 o168 gr9_32 (ShModel_k0 hSO) (ShModel_r12 hSO) rfl <| ok_iloadn (pc' := 13) i168_12 rfl rfl <| ?_
        have z61 : 0 ≤ (ub by_ (st + x)) ∧ (ub by_ (st + x)) ≤ 255 := ub_f
        have u_stx : ub by_ (st + x) = by_ (st + x) % 256 ∧ -128 ≤ by_ (st + x) ∧ by_ (st + x) < 128 := ⟨rfl, (hU (st + x) (by omega) (by omega)).2⟩
        refine ok_iaload (v := (ub by_ (st + x))) (pc' := 14) i168_13 (ShModel_k8 hSO) (by decide) (ShModel_l8 hSO) (by omega) (hU (st + x) (by omega) (by omega)).1 rfl <| ok_goto (pc' := 18) i168_14 rfl <| ok_ireti i168_18 rt168 <| kt_v (pc' := 53) rfl <| ok_aloadn (pc' := 54) i172_53 rfl rfl <| ok_iloadn (pc' := 55) i172_54 rfl rfl <| ok_cp (pc' := 58) (d0 := 3) i172_55 rfl (cl_v o172 m9_125 na2 rfl rfl (bt rfl) (bt rfl) rfl (by rw [ShStr_k0 hSc, o2])) ln2 (pd2 (aR c) (aI x)) (by omega) (t2w (x1 := x) hW hl (by omega)) rfl <| ?_
        have z62 : 0 ≤ (tx x) ∧ (tx x) < 128 := (hW.2.2 x (by omega) (by omega)).2
        refine ok_ceq (pc1 := 63) (pc2 := 61) i172_58 (by omega) rfl rfl (fun h23 => ?_) (fun h23 => ?_)
        · refine ok_iinc (pc' := 66) (v := (x + 1)) (ls' := [aR O, aR c, aI (x + 1)]) i172_63 rfl rfl rfl rfl <| ok_goto (pc' := 35) i172_66 rfl <| ?_
          exact ih (x + 1) _ _ (by omega) ⟨by omega, fun i h7 h8 => (Decidable.em (i = x)).elim (fun hi => by rw [hi]; omega) (fun hi => hE i h7 (by omega)), rfl, rfl⟩
        · refine ok_iconst (pc' := 62) i172_61 rfl <| ok_iretz i172_62 rt172 (by decide) <| ?_
          exact ⟨by rw [show wdB by_ tx m st en ty = 0 from if_neg (by rintro ⟨h7, h8, h9⟩; have h10 := eqW_f m h9 x (by omega) (by omega); omega)], rfl, rfl⟩
    · refine ok_iconst (pc' := 32) i172_31 rfl <| ok_iretz i172_32 rt172 (by decide) <| ?_
      exact ⟨by rw [show wdB by_ tx m st en ty = 0 from if_neg (by rintro ⟨h7, h8, h9⟩; have := (srt_f ht0).2.2.1.mpr h7; omega)], rfl, rfl⟩
theorem t178 {g : AG} {M : AM} {O : Nat} {by_ q s : Int → Int} {n a b : Int} (hSO : ShModel g O) (hU : InU M O by_) (j17 : M O 17 = n) (hn : 0 ≤ n ∧ n ≤ 700) (ha : 0 ≤ a ∧ a ≤ n) (hT : TokAt M O by_ n a) (j22 : M O 22 = 0) (hRR : RepR M O q s) (hV : Val b q s) (hQ : ValQ q) (hs3 : s 3 ≤ 24) (hs4 : s 4 ≤ 12) (hZR : ZR s) (hWD : WdsR g M) :
    Ok 5 178 0 [aR O] [] g M (Rt none g (fun M9 => LPq M9 O by_ n (lineL by_ n q s a) ∧ (∀ y : Int, y < 18 → M9 O y = M O y) ∧ (∀ y : Int, 30 < y → M9 O y = M O y) ∧ ∀ c, c ≠ O → (c < O + 9 ∨ O + 13 < c) → M9 c = M c)) := by
  have ys3 : 0 ≤ s 3 ∧ s 3 ≤ 80 := V_3 hV
  have ys4 : 0 ≤ s 4 ∧ s 4 ≤ 16 := V_4 hV
  have yq0 : 0 ≤ q 0 ∧ q 0 ≤ 4 := Q_0 hQ
  have yq1 : 0 ≤ q 1 ∧ q 1 ≤ 6 := Q_1 hQ
  have rap := en_rg (by_ := by_) (n := n) (a := a) (by omega)
  have rap : (a ≤ (stS by_ n a) ∧ (stS by_ n a) ≤ n ∧ (stS by_ n a) ≤ (enS by_ n a) ∧ (enS by_ n a) ≤ n) ∧ 0 ≤ (tyS by_ n a) ∧ (tyS by_ n a) ≤ 4 := ⟨⟨rap.1, rap.2.1, rap.2.2.1, rap.2.2.2.1⟩, rap.2.2.2.2.2⟩
  have rsr := (srt_f (ty := tyS by_ n a) (by omega)).1
  refine ok_aloadn (pc' := 1) i178_0 rfl rfl <| ok_ldcs (pc' := 3) i178_1 o178 sr9_161 (by decide) rfl <| ok_cp (pc' := 6) (d0 := 4) i178_3 rfl (cl_v o178 m9_129 na172 rfl rfl (bt rfl) (bt rfl) rfl (by rw [ShModel_k0 hSO, o172])) ln172 (pd172 (aR O) (aR 32)) (by omega) (show Ok _ _ _ _ _ _ _ (Rt (some (aI (wdA by_ n 3 4 a))) _ _) from t172 hSO hU (show Wds g M 26 28 30 32 34 36 38 from hWD).2.2.2.1 hn j17 hT.1 hT.2.1 hT.2.2.1 j22 (by omega) (by omega) (by omega)) rfl <| ?_
  have z61 : 0 ≤ (wdA by_ n 3 4 a) ∧ (wdA by_ n 3 4 a) ≤ 1 := wdA_rg
  refine ok_zeq (pc1 := 16) (pc2 := 9) i178_6 (by omega) rfl rfl (fun h1 => ?_) (fun h1 => ?_)
  · refine ok_aloadn (pc' := 17) i178_16 rfl rfl <| ok_ldcs (pc' := 19) i178_17 o178 sr9_166 (by decide) rfl <| ok_cp (pc' := 22) (d0 := 4) i178_19 rfl (cl_v o178 m9_129 na172 rfl rfl (bt rfl) (bt rfl) rfl (by rw [ShModel_k0 hSO, o172])) ln172 (pd172 (aR O) (aR 34)) (by omega) (show Ok _ _ _ _ _ _ _ (Rt (some (aI (wdA by_ n 4 4 a))) _ _) from t172 hSO hU (show Wds g M 26 28 30 32 34 36 38 from hWD).2.2.2.2.1 hn j17 hT.1 hT.2.1 hT.2.2.1 j22 (by omega) (by omega) (by omega)) rfl <| ?_
    have z62 : 0 ≤ (wdA by_ n 4 4 a) ∧ (wdA by_ n 4 4 a) ≤ 1 := wdA_rg
    refine ok_zeq (pc1 := 32) (pc2 := 25) i178_22 (by omega) rfl rfl (fun h2 => ?_) (fun h2 => ?_)
    · refine ok_aloadn (pc' := 33) i178_32 rfl rfl <| ok_ldcs (pc' := 35) i178_33 o178 sr9_171 (by decide) rfl <| ok_cp (pc' := 38) (d0 := 4) i178_35 rfl (cl_v o178 m9_129 na172 rfl rfl (bt rfl) (bt rfl) rfl (by rw [ShModel_k0 hSO, o172])) ln172 (pd172 (aR O) (aR 36)) (by omega) (show Ok _ _ _ _ _ _ _ (Rt (some (aI (wdA by_ n 5 5 a))) _ _) from t172 hSO hU (show Wds g M 26 28 30 32 34 36 38 from hWD).2.2.2.2.2.1 hn j17 hT.1 hT.2.1 hT.2.2.1 j22 (by omega) (by omega) (by omega)) rfl <| ?_
      have z63 : 0 ≤ (wdA by_ n 5 5 a) ∧ (wdA by_ n 5 5 a) ≤ 1 := wdA_rg
      refine ok_zeq (pc1 := 48) (pc2 := 41) i178_38 (by omega) rfl rfl (fun h3 => ?_) (fun h3 => ?_)
      · refine ok_aloadn (pc' := 49) i178_48 rfl rfl <| ok_ldcs (pc' := 51) i178_49 o178 sr9_176 (by decide) rfl <| ok_cp (pc' := 54) (d0 := 4) i178_51 rfl (cl_v o178 m9_129 na172 rfl rfl (bt rfl) (bt rfl) rfl (by rw [ShModel_k0 hSO, o172])) ln172 (pd172 (aR O) (aR 38)) (by omega) (show Ok _ _ _ _ _ _ _ (Rt (some (aI (wdA by_ n 6 7 a))) _ _) from t172 hSO hU (show Wds g M 26 28 30 32 34 36 38 from hWD).2.2.2.2.2.2 hn j17 hT.1 hT.2.1 hT.2.2.1 j22 (by omega) (by omega) (by omega)) rfl <| ?_
        have z64 : 0 ≤ (wdA by_ n 6 7 a) ∧ (wdA by_ n 6 7 a) ≤ 1 := wdA_rg
        refine ok_zeq (pc1 := 64) (pc2 := 57) i178_54 (by omega) rfl rfl (fun h4 => ?_) (fun h4 => ?_)
        · refine ok_aloadn (pc' := 65) i178_64 rfl rfl <| ok_iconst (pc' := 66) i178_65 rfl <| ok_cc i178_66 rfl (cl_v o178 m9_112 na174 rfl rfl (bt rfl) (bt rfl) rfl (by rw [ShModel_k0 hSO, o174])) ln174 (pd174 (aR O) (aI 1)) <| ok_aloadn (pc' := 1) i174_0 rfl rfl <| ok_getfi (v := 0) (pc' := 4) i174_1 o174 gi9_106 (ShModel_k0 hSO) j22 rfl <| ok_kz0 (pc1 := 20) (pc2 := 7) i174_4 (by decide) rfl rfl <| ok_aloadn (pc' := 8) i174_7 rfl rfl <| ok_iloadn (pc' := 9) i174_8 rfl rfl <| ?_
          refine ok_putfj (kk := 22) (pc' := 12) i174_9 o174 pi174_106 (ShModel_k0 hSO) rfl rfl <| ok_aloadn (pc' := 13) i174_12 rfl rfl <| ok_aloadn (pc' := 14) i174_13 rfl rfl <| ok_getfi (v := (stS by_ n a)) (pc' := 17) i174_14 o174 gi9_90 (ShModel_k0 hSO) (rd_ni (by decide) hT.2.1) rfl <| ok_putfj (kk := 23) (pc' := 20) i174_17 o174 pi174_109 (ShModel_k0 hSO) rfl rfl <| ok_vret i174_20 rt174 <| kt_0 (pc' := 69) rfl <| ok_vret i178_69 rt178 <| ?_
          have e : lineL by_ n q s a = .inl (1, stS by_ n a) := by unfold lineL; rw [if_neg (by omega), if_neg (by omega), if_neg (by omega), if_neg (by omega)]
          exact ⟨rfl, rfl, Or.inl (by rw [e]; exact ⟨(rd_ni (by decide) rd_eq), rd_eq, (show (1 : Int) ≤ 1 by decide), (show (1 : Int) ≤ 4 by decide)⟩), fun y hy => by rw [up2_rd, if_neg (by omega), up2_rd, if_neg (by omega)], fun y hy => by rw [up2_rd, if_neg (by omega), up2_rd, if_neg (by omega)], fun c h1 h2 => by rw [up2_na (by omega), up2_na (by omega)]⟩
        · refine ok_aloadn (pc' := 58) i178_57 rfl rfl <| ?_
          refine ok_cn0 (pc' := 61) (d0 := 3) i178_58 rfl (cl_v o178 m9_177 na183 rfl rfl (bt rfl) (bt rfl) rfl (by rw [ShModel_k0 hSO, o183])) ln183 (pd183 (aR O)) (by omega) (t183 (a := enS by_ n a) hSO hU j17 hn (by omega) hT.1 hT.2.1 (by rw [hT.2.2.1, wdA_ty (by assumption)]; rfl) j22 hRR hV hQ) rfl (fun M5 p6 => ?_)
          refine ok_goto (pc' := 69) i178_61 rfl <| ok_vret i178_69 rt178 <| ?_
          have e : lineL by_ n q s a = ptnL by_ n q s (stS by_ n a) (enS by_ n a) := by unfold lineL; rw [if_neg (by omega), if_neg (by omega), if_neg (by omega), if_pos (by omega)]
          exact ⟨rfl, rfl, by rw [e]; exact p6.1, p6.2⟩
      · refine ok_aloadn (pc' := 42) i178_41 rfl rfl <| ?_
        refine ok_cn0 (pc' := 45) (d0 := 4) i178_42 rfl (cl_v o178 m9_173 na181 rfl rfl (bt rfl) (bt rfl) rfl (by rw [ShModel_k0 hSO, o181])) ln181 (pd181 (aR O)) (by omega) (t181 (a := enS by_ n a) hSO hU j17 hn (by omega) hT.1 hT.2.1 (by rw [hT.2.2.1, wdA_ty (by assumption)]; rfl) j22 hRR hV hQ (by omega)) rfl (fun M7 p8 => ?_)
        refine ok_goto (pc' := 69) i178_45 rfl <| ok_vret i178_69 rt178 <| ?_
        have e : lineL by_ n q s a = ordL by_ n q s (stS by_ n a) (enS by_ n a) := by unfold lineL; rw [if_neg (by omega), if_neg (by omega), if_pos (by omega)]
        exact ⟨rfl, rfl, by rw [e]; exact Or.inl p8.1, p8.2⟩
    · refine ok_aloadn (pc' := 26) i178_25 rfl rfl <| ?_
      refine ok_cn0 (pc' := 29) (d0 := 4) i178_26 rfl (cl_v o178 m9_168 na180 rfl rfl (bt rfl) (bt rfl) rfl (by rw [ShModel_k0 hSO, o180])) ln180 (pd180 (aR O)) (by omega) (t180 (a := enS by_ n a) hSO hU j17 hn (by omega) hT.1 hT.2.1 (by rw [hT.2.2.1, wdA_ty (by assumption)]; rfl) j22 hRR hV hQ (by omega) hZR) rfl (fun M9 p10 => ?_)
      refine ok_goto (pc' := 69) i178_29 rfl <| ok_vret i178_69 rt178 <| ?_
      have e : lineL by_ n q s a = rodsL by_ n q s (stS by_ n a) (enS by_ n a) := by unfold lineL; rw [if_neg (by omega), if_pos (by omega)]
      exact ⟨rfl, rfl, by rw [e]; exact Or.inl p10.1, p10.2⟩
  · refine ok_aloadn (pc' := 10) i178_9 rfl rfl <| ?_
    refine ok_cn0 (pc' := 13) (d0 := 4) i178_10 rfl (cl_v o178 m9_163 na179 rfl rfl (bt rfl) (bt rfl) rfl (by rw [ShModel_k0 hSO, o179])) ln179 (pd179 (aR O)) (by omega) (t179 (a := enS by_ n a) hSO hU j17 hn (by omega) hT.1 hT.2.1 (by rw [hT.2.2.1, wdA_ty (by assumption)]; rfl) j22 hRR hV hQ) rfl (fun M11 p12 => ?_)
    refine ok_goto (pc' := 69) i178_13 rfl <| ok_vret i178_69 rt178 <| ?_
    have e : lineL by_ n q s a = kindL by_ n q s (stS by_ n a) (enS by_ n a) := by unfold lineL; rw [if_pos (by omega)]
    exact ⟨rfl, rfl, by rw [e]; exact Or.inl p12.1, p12.2⟩
