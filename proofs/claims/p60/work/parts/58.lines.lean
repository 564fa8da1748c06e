/-! LINES: the class (by program, wip/gen) -/
/-! LINES: the class -/
abbrev LR : Type := (Int × Int) ⊕ (Int × (Int → Int) × (Int → Int))
def lrB : LR → Int
  | .inl _ => 0
  | .inr _ => 1
def LPo (M M9 : AM) (J P B : Nat) : LR → Prop
  | .inl e => M9 J 8 = e.1 ∧ M9 J 5 = e.2 ∧ ∀ a, B ≤ a → a < B + 24 → M9 a = M a
  | .inr x => M9 J 4 = x.1 ∧ RepP M9 P x.2.1 ∧ RepS M9 B x.2.2
def entK (q : Int → Int) (l p : Int) : Int → Int := upI (upI (upI q (2 + q 0) l) (6 + q 0) p) 0 (q 0 + 1)
def entP (q : Int → Int) : Int → Int := upI (upI q (10 + q 1) 0) 1 (q 1 + 1)
def extP (q : Int → Int) (l : Int) : Int → Int := upI (upI q (16 + (6 * (q 1 - 1) + q (10 + (q 1 - 1)))) l) (10 + (q 1 - 1)) (q (10 + (q 1 - 1)) + 1)
theorem RepP_entK {M : AM} {P : Nat} {q : Int → Int} {l p : Int} (h : RepP M P q) (c : 0 ≤ q 0 ∧ q 0 < 4) (hz : ∀ w : Int, 0 ≤ w → w < q 1 → q (10 + w) ≤ 6) (c1 : q 1 ≤ 6) : RepP (up2 (up2 (up2 M (P + 1) (q 0) l) (P + 2) (q 0) p) P 0 (q 0 + 1)) P (entK q l p) := by
  obtain ⟨h0, h3, h1, h2, h4, h5⟩ := h
  have e0 : entK q l p 0 = q 0 + 1 := by unfold entK; exact upI_eq
  have e1 : entK q l p 1 = q 1 := by unfold entK; rw [upI_ne (by omega), upI_ne (by omega), upI_ne (by omega)]
  have eh : ∀ k : Int, 10 ≤ k → entK q l p k = q k := fun k hk => by unfold entK; rw [upI_ne (by omega), upI_ne (by omega), upI_ne (by omega)]
  refine ⟨by rw [e0]; exact rd_eq, by rw [e1, up2_rd, if_neg (by omega), up2_na (by omega), up2_na (by omega)]; exact h3, ?_, ?_, ?_, ?_⟩
  · intro i g0 g1
    rw [e0] at g1
    have := h1 i g0
    unfold entK
    simp only [up2_rd, upI]
    grind (splits := 40)
  · intro i g0 g1
    rw [e0] at g1
    have := h2 i g0
    unfold entK
    simp only [up2_rd, upI]
    grind (splits := 40)
  · intro i g0 g1
    rw [e1] at g1
    rw [eh _ (by omega), up2_na (by omega), up2_na (by omega), up2_na (by omega)]
    exact h4 i g0 g1
  · intro w hw hw2 i g0 g1
    rw [e1] at hw2
    rw [eh _ (by omega)] at g1
    rw [eh _ (by omega), up2_na (by omega), up2_na (by omega), up2_na (by omega)]
    exact h5 w hw hw2 i g0 g1
theorem RepP_entP {M : AM} {P : Nat} {q : Int → Int} (h : RepP M P q) (c0 : q 0 ≤ 4) (c : 0 ≤ q 1 ∧ q 1 < 6) : RepP (up2 (up2 M (P + 3) (q 1) 0) P 3 (q 1 + 1)) P (entP q) := by
  obtain ⟨h0, h3, h1, h2, h4, h5⟩ := h
  have e1 : entP q 1 = q 1 + 1 := by unfold entP; exact upI_eq
  have eh : ∀ k : Int, k ≠ 1 → k ≠ 10 + q 1 → entP q k = q k := fun k hk hk2 => by unfold entP; rw [upI_ne (by omega), upI_ne (by omega)]
  refine ⟨by rw [eh _ (by omega) (by omega), up2_rd, if_neg (by omega), up2_na (by omega)]; exact h0, by rw [e1]; exact rd_eq, ?_, ?_, ?_, ?_⟩
  · intro i g0 g1
    rw [eh _ (by omega) (by omega)] at g1
    rw [eh _ (by omega) (by omega), up2_na (by omega), up2_na (by omega)]; exact h1 i g0 g1
  · intro i g0 g1
    rw [eh _ (by omega) (by omega)] at g1
    rw [eh _ (by omega) (by omega), up2_na (by omega), up2_na (by omega)]; exact h2 i g0 g1
  · intro i g0 g1
    rw [e1] at g1
    have := h4 i g0
    unfold entP
    simp only [up2_rd, upI]
    grind (splits := 40)
  · intro w hw hw2 i g0 g1
    rw [e1] at hw2
    by_cases hq : (w : Int) = q 1
    · rw [hq, show entP q (10 + q 1) = 0 by unfold entP; rw [upI_ne (by omega)]; exact upI_eq] at g1
      omega
    · rw [eh _ (by omega) (by omega)] at g1
      rw [eh _ (by omega) (by omega), up2_na (by omega), up2_na (by omega)]
      exact h5 w hw (by omega) i g0 g1
def kindL (by_ : Int → Int) (n : Int) (q s : Int → Int) (w a : Int) : LR := if 4 ≤ q 0 then .inl (4, w) else if (nuB by_ n 1 200 a) = 0 then .inl (nuC by_ n 1 200 a, stS by_ n a) else if (nuB by_ n 1 99 (enS by_ n a)) = 0 then .inl (nuC by_ n 1 99 (enS by_ n a), stS by_ n (enS by_ n a)) else if (r9 q (vaS by_ n a) (vaS by_ n (enS by_ n a))) ≠ 0 then .inl (3, stS by_ n (enS by_ n a)) else .inr (enS by_ n (enS by_ n a), entK q (vaS by_ n a) (vaS by_ n (enS by_ n a)), s)
def ordL (by_ : Int → Int) (n : Int) (q s : Int → Int) (w a : Int) : LR := if 12 ≤ s 4 then .inl (4, w) else if (nuB by_ n 1 200 a) = 0 then .inl (nuC by_ n 1 200 a, stS by_ n a) else if (nuB by_ n 1 9 (enS by_ n a)) = 0 then .inl (nuC by_ n 1 9 (enS by_ n a), stS by_ n (enS by_ n a)) else if (nuB by_ n 0 99 (enS by_ n (enS by_ n a))) = 0 then .inl (nuC by_ n 0 99 (enS by_ n (enS by_ n a)), stS by_ n (enS by_ n (enS by_ n a))) else if (nuB by_ n 0 99 (enS by_ n (enS by_ n (enS by_ n a)))) = 0 then .inl (nuC by_ n 0 99 (enS by_ n (enS by_ n (enS by_ n a))), stS by_ n (enS by_ n (enS by_ n (enS by_ n a)))) else .inr (enS by_ n (enS by_ n (enS by_ n (enS by_ n a))), q, ordS s (vaS by_ n a) (vaS by_ n (enS by_ n a)) (vaS by_ n (enS by_ n (enS by_ n a))) (vaS by_ n (enS by_ n (enS by_ n (enS by_ n a)))))
theorem gr3_12 : am_gfr 3 12 3 1 = true := by decide +kernel
theorem o81 : am_oc 81 = 3 := by decide +kernel
theorem gi3_63 : am_gfi 3 63 4 0 = true := by decide +kernel
theorem m3_86 : am_mlk 3 86 0 79 = true := by decide +kernel
theorem na79 : am_na 79 = 2 := by decide +kernel
theorem nl79 : am_nL 79 = 3 := by decide +kernel
theorem pd79 : ∀ a0 a1 a2 : AV, am_pad 79 [a0, a1, a2] = [a0, a1, a2] := by intros; unfold am_pad; rw [nl79]; rfl
theorem ln79 : 3 ≤ am_nL 79 := by rw [nl79]; decide
theorem m3_121 : am_mlk 3 121 0 9 = true := by decide +kernel
theorem na9 : am_na 9 = 2 := by decide +kernel
theorem nl9 : am_nL 9 = 4 := by decide +kernel
theorem pd9 : ∀ a0 a1 a2 : AV, am_pad 9 [a0, a1, a2] = [a0, a1, a2, aU] := by intros; unfold am_pad; rw [nl9]; rfl
theorem ln9 : 3 ≤ am_nL 9 := by rw [nl9]; decide
theorem m3_124 : am_mlk 3 124 0 10 = true := by decide +kernel
theorem na10 : am_na 10 = 2 := by decide +kernel
theorem nl10 : am_nL 10 = 3 := by decide +kernel
theorem pd10 : ∀ a0 a1 a2 : AV, am_pad 10 [a0, a1, a2] = [a0, a1, a2] := by intros; unfold am_pad; rw [nl10]; rfl
theorem ln10 : 3 ≤ am_nL 10 := by rw [nl10]; decide
theorem o10 : am_oc 10 = 4 := by decide +kernel
theorem pi10_26 : am_pfi 10 4 26 4 0 = true := by decide +kernel
theorem rt10 : am_rt 10 = none := by decide +kernel
theorem rt81 : am_rt 81 = some .boolean := by decide +kernel
theorem gr3_21 : am_gfr 3 21 3 2 = true := by decide +kernel
theorem o83 : am_oc 83 = 3 := by decide +kernel
theorem gi3_72 : am_gfi 3 72 5 4 = true := by decide +kernel
theorem m3_134 : am_mlk 3 134 0 16 = true := by decide +kernel
theorem na16 : am_na 16 = 4 := by decide +kernel
theorem nl16 : am_nL 16 = 6 := by decide +kernel
theorem pd16 : ∀ a0 a1 a2 a3 a4 : AV, am_pad 16 [a0, a1, a2, a3, a4] = [a0, a1, a2, a3, a4, aU] := by intros; unfold am_pad; rw [nl16]; rfl
theorem ln16 : 5 ≤ am_nL 16 := by rw [nl16]; decide
theorem rt83 : am_rt 83 = some .boolean := by decide +kernel
theorem t81 {g : AG} {M : AM} {J Z P B : Nat} {by_ q s : Int → Int} {n a b : Int} {w : Int} (hSJ : ShParser g J Z P B) (hSZ : ShBytes g Z) (hSP : ShPlan g P) (hSB : ShState g B) (hgeo : Z < J ∧ J < P ∧ P + 11 ≤ B) (hZ : InZ M Z by_) (j3 : M J 3 = n) (hn : 0 ≤ n ∧ n ≤ 700) (ha : 0 ≤ a ∧ a ≤ n) (j4 : M J 4 = a) (hRP : RepP M P q) (hRB : RepS M B s) (hV : Val b q s) (hQ : ValQ q) (j5 : M J 5 = w) :
    Ok 4 81 0 [aR J, aU] [] g M (Rt (some (aI (lrB (kindL by_ n q s w a)))) g (fun M9 => LPo M M9 J P B (kindL by_ n q s w a) ∧ (∀ y : Int, y ≠ 4 → y ≠ 5 → y ≠ 6 → y ≠ 7 → y ≠ 8 → M9 J y = M J y) ∧ ∀ c, (c < J ∨ B + 24 ≤ c) → M9 c = M c)) := by
  have ys3 : 0 ≤ s 3 ∧ s 3 ≤ 80 := V_3 hV
  have ys4 : 0 ≤ s 4 ∧ s 4 ≤ 16 := V_4 hV
  have yq0 : 0 ≤ q 0 ∧ q 0 ≤ 4 := Q_0 hQ
  have yq1 : 0 ≤ q 1 ∧ q 1 ≤ 6 := Q_1 hQ
  refine ok_aloadn (pc' := 1) i81_0 rfl rfl <| ok_getfr (r := P) (pc' := 4) i81_1 o81 gr3_12 (ShParser_k0 hSJ) (ShParser_r1 hSJ) rfl <| ok_getfi (v := (q 0)) (pc' := 7) i81_4 o81 gi3_63 (ShPlan_k0 hSP) (RepP_f0 hRP) rfl <| ok_iconst (pc' := 8) i81_7 rfl <| ?_
  refine ok_clt (pc1 := 17) (pc2 := 11) i81_8 (by omega) rfl rfl (fun h1 => ?_) (fun h1 => ?_)
  · refine ok_aloadn (pc' := 18) i81_17 rfl rfl <| ok_iconst (pc' := 19) i81_18 rfl <| ok_sipush (v := 200) (pc' := 22) i81_19 rfl rfl <| ?_
    refine ok_cn (pc' := 25) (d0 := 3) i81_22 rfl (cl_v o81 m3_86 na79 rfl rfl (bt rfl) (bt rfl) rfl (by rw [ShParser_k0 hSJ, o79])) ln79 (pd79 (aR J) (aI 1) (aI 200)) (by omega) (t79 (a := a) (x1 := 1) (x2 := 200) hSJ hSZ (by omega) hZ j3 hn (by omega) j4 (by omega) (by omega)) rfl (fun M2 p3 => ?_)
    have z1 : a ≤ (stS by_ n a) ∧ (stS by_ n a) ≤ n ∧ (stS by_ n a) ≤ (enS by_ n a) ∧ (enS by_ n a) ≤ n := (by have h9 := en_rg (by_ := by_) (n := n) (a := a) (by omega); exact ⟨h9.1, h9.2.1, h9.2.2.1, h9.2.2.2.1⟩)
    have z2 : 0 ≤ (nuB by_ n 1 200 a) ∧ (nuB by_ n 1 200 a) ≤ 1 := nuB_rg
    have hZM2 : InZ M2 Z by_ := fun i h0 h1 => by rw [p3.2.2.2.2.2.2 Z (by omega)]; exact hZ i h0 h1
    have hPM2 : RepP M2 P q := RepP.fr hRP (fun a h1 h2 => p3.2.2.2.2.2.2 a (by omega))
    have hSM2 : RepS M2 B s := RepS.fr hRB (fun a h1 h2 => p3.2.2.2.2.2.2 a (by omega))
    refine ok_zne (pc1 := 30) (pc2 := 28) i81_25 (by omega) rfl rfl (fun h4 => ?_) (fun h4 => ?_)
    · refine ok_aloadn (pc' := 31) i81_30 rfl rfl <| ?_
      have z3 : 1 ≤ (vaS by_ n a) ∧ (vaS by_ n a) ≤ 200 := (nu_ok (by omega)).2.2
      refine ok_getfi (v := (vaS by_ n a)) (pc' := 34) i81_31 o81 gi3_94 (ShParser_k0 hSJ) (p3.2.2.2.1 (nu_ok (by omega)).1) rfl <| ok_istoren (pc' := 35) (ls' := [aR J, aI (vaS by_ n a)]) i81_34 (bt rfl) rfl rfl <| ok_aloadn (pc' := 36) i81_35 rfl rfl <| ok_iconst (pc' := 37) i81_36 rfl <| ok_bipush (v := 99) (pc' := 39) i81_37 rfl rfl <| ?_
      refine ok_cn (pc' := 42) (d0 := 3) i81_39 rfl (cl_v o81 m3_86 na79 rfl rfl (bt rfl) (bt rfl) rfl (by rw [ShParser_k0 hSJ, o79])) ln79 (pd79 (aR J) (aI 1) (aI 99)) (by omega) (t79 (a := (enS by_ n a)) (x1 := 1) (x2 := 99) hSJ hSZ (by omega) hZM2 ((p3.2.2.2.2.2.1 3 (by decide) (by decide) (by decide) (by decide) (by decide)).trans j3) hn (by omega) p3.1 (by omega) (by omega)) rfl (fun M5 p6 => ?_)
      have z4 : (enS by_ n a) ≤ (stS by_ n (enS by_ n a)) ∧ (stS by_ n (enS by_ n a)) ≤ n ∧ (stS by_ n (enS by_ n a)) ≤ (enS by_ n (enS by_ n a)) ∧ (enS by_ n (enS by_ n a)) ≤ n := (by have h9 := en_rg (by_ := by_) (n := n) (a := (enS by_ n a)) (by omega); exact ⟨h9.1, h9.2.1, h9.2.2.1, h9.2.2.2.1⟩)
      have z5 : 0 ≤ (nuB by_ n 1 99 (enS by_ n a)) ∧ (nuB by_ n 1 99 (enS by_ n a)) ≤ 1 := nuB_rg
      have hZM5 : InZ M5 Z by_ := fun i h0 h1 => by rw [p6.2.2.2.2.2.2 Z (by omega)]; exact hZM2 i h0 h1
      have hPM5 : RepP M5 P q := RepP.fr hPM2 (fun a h1 h2 => p6.2.2.2.2.2.2 a (by omega))
      have hSM5 : RepS M5 B s := RepS.fr hSM2 (fun a h1 h2 => p6.2.2.2.2.2.2 a (by omega))
      refine ok_zne (pc1 := 47) (pc2 := 45) i81_42 (by omega) rfl rfl (fun h7 => ?_) (fun h7 => ?_)
      · refine ok_aloadn (pc' := 48) i81_47 rfl rfl <| ok_getfr (r := P) (pc' := 51) i81_48 o81 gr3_12 (ShParser_k0 hSJ) (ShParser_r1 hSJ) rfl <| ok_iloadn (pc' := 52) i81_51 rfl rfl <| ok_aloadn (pc' := 53) i81_52 rfl rfl <| ?_
        have z6 : 1 ≤ (vaS by_ n (enS by_ n a)) ∧ (vaS by_ n (enS by_ n a)) ≤ 99 := (nu_ok (by omega)).2.2
        refine ok_getfi (v := (vaS by_ n (enS by_ n a))) (pc' := 56) i81_53 o81 gi3_94 (ShParser_k0 hSJ) (p6.2.2.2.1 (nu_ok (by omega)).1) rfl <| ok_cp (pc' := 59) (d0 := 0) i81_56 rfl (cl_v o81 m3_121 na9 rfl rfl (bt rfl) (bt rfl) rfl (by rw [ShPlan_k0 hSP, o9])) ln9 (pd9 (aR P) (aI (vaS by_ n a)) (aI (vaS by_ n (enS by_ n a)))) (by omega) (t9 (x1 := (vaS by_ n a)) (x2 := (vaS by_ n (enS by_ n a))) hSP hPM5 hQ (by omega) (by omega)) rfl <| ?_
        have z7 : 0 ≤ (r9 q (vaS by_ n a) (vaS by_ n (enS by_ n a))) ∧ (r9 q (vaS by_ n a) (vaS by_ n (enS by_ n a))) ≤ 1 := x9 (M := M5) (x1 := (vaS by_ n a)) (x2 := (vaS by_ n (enS by_ n a))) hSP hPM5 hQ (by omega) (by omega)
        refine ok_zeq (pc1 := 68) (pc2 := 62) i81_59 (by omega) rfl rfl (fun h8 => ?_) (fun h8 => ?_)
        · refine ok_aloadn (pc' := 69) i81_68 rfl rfl <| ok_getfr (r := P) (pc' := 72) i81_69 o81 gr3_12 (ShParser_k0 hSJ) (ShParser_r1 hSJ) rfl <| ok_iloadn (pc' := 73) i81_72 rfl rfl <| ok_aloadn (pc' := 74) i81_73 rfl rfl <| ok_getfi (v := (vaS by_ n (enS by_ n a))) (pc' := 77) i81_74 o81 gi3_94 (ShParser_k0 hSJ) (p6.2.2.2.1 (nu_ok (by omega)).1) rfl <| ok_cc i81_77 rfl (cl_v o81 m3_124 na10 rfl rfl (bt rfl) (bt rfl) rfl (by rw [ShPlan_k0 hSP, o10])) ln10 (pd10 (aR P) (aI (vaS by_ n a)) (aI (vaS by_ n (enS by_ n a)))) <| ok_aloadn (pc' := 1) i10_0 rfl rfl <| ok_getfi (v := (q 0)) (pc' := 4) i10_1 o10 gi4_26 (ShPlan_k0 hSP) (RepP_f0 hPM5) rfl <| ?_
          refine ok_iconst (pc' := 5) i10_4 rfl <| ?_
          refine ok_cge (pc1 := 38) (pc2 := 8) i10_5 (by omega) rfl rfl (fun h9 => by exfalso; omega) (fun h9 => ?_)
          refine ok_aloadn (pc' := 9) i10_8 rfl rfl <| ok_getfr (r := (P + 1)) (pc' := 12) i10_9 o10 gr4_9 (ShPlan_k0 hSP) (ShPlan_r1 hSP) rfl <| ok_aloadn (pc' := 13) i10_12 rfl rfl <| ok_getfi (v := (q 0)) (pc' := 16) i10_13 o10 gi4_26 (ShPlan_k0 hSP) (RepP_f0 hPM5) rfl <| ok_iloadn (pc' := 17) i10_16 rfl rfl <| ok_iastore (pc' := 18) i10_17 (ShPlan_k1 hSP) (ShPlan_l1 hSP) (by omega) rfl <| ok_aloadn (pc' := 19) i10_18 rfl rfl <| ok_getfr (r := (P + 2)) (pc' := 22) i10_19 o10 gr4_15 (ShPlan_k0 hSP) (ShPlan_r2 hSP) rfl <| ?_
          refine ok_aloadn (pc' := 23) i10_22 rfl rfl <| ok_getfi (v := (q 0)) (pc' := 26) i10_23 o10 gi4_26 (ShPlan_k0 hSP) (rd_na (by omega) (RepP_f0 hPM5)) rfl <| ok_iloadn (pc' := 27) i10_26 rfl rfl <| ok_iastore (pc' := 28) i10_27 (ShPlan_k2 hSP) (ShPlan_l2 hSP) (by omega) rfl <| ok_aloadn (pc' := 29) i10_28 rfl rfl <| ok_dup (pc' := 30) i10_29 rfl rfl <| ok_getfi (v := (q 0)) (pc' := 33) i10_30 o10 gi4_26 (ShPlan_k0 hSP) (rd_na (by omega) (rd_na (by omega) (RepP_f0 hPM5))) rfl <| ok_iconst (pc' := 34) i10_33 rfl <| ?_
          refine ok_iadd (v := ((q 0) + 1)) (pc' := 35) i10_34 rfl rfl <| ok_putfj (kk := 0) (pc' := 38) i10_35 o10 pi10_26 (ShPlan_k0 hSP) rfl rfl <| ok_vret i10_38 rt10 <| kt_0 (pc' := 80) rfl <| ok_iconst (pc' := 81) i81_80 rfl <| ok_iretz i81_81 rt81 (by decide) <| ?_
          have e : kindL by_ n q s w a = .inr ((enS by_ n (enS by_ n a)), entK q (vaS by_ n a) (vaS by_ n (enS by_ n a)), s) := by unfold kindL; rw [if_neg (by omega), if_neg (by omega), if_neg (by omega), if_neg (by omega)]
          exact ⟨by rw [e]; rfl, rfl, by rw [e]; exact ⟨(rd_na (by omega) (rd_na (by omega) (rd_na (by omega) p6.1))), RepP_entK hPM5 (by omega) (fun w h0 h1 => (Q_10 hQ h0 h1).2) (by omega), RepS.fr hSM5 (fun a h1 h2 => by rw [up2_na (by omega), up2_na (by omega), up2_na (by omega)])⟩, fun y c4 c5 c6 c7 c8 => by rw [up2_na (by omega), up2_na (by omega), up2_na (by omega)]; exact (p6.2.2.2.2.2.1 y c4 c5 c6 c7 c8).trans (p3.2.2.2.2.2.1 y c4 c5 c6 c7 c8), fun c hc => by rw [up2_na (by omega), up2_na (by omega), up2_na (by omega)]; exact (p6.2.2.2.2.2.2 c (by omega)).trans (p3.2.2.2.2.2.2 c (by omega))⟩
        · refine ok_aloadn (pc' := 63) i81_62 rfl rfl <| ok_iconst (pc' := 64) i81_63 rfl <| ok_cc i81_64 rfl (cl_v o81 m3_44 na78 rfl rfl (bt rfl) (bt rfl) rfl (by rw [ShParser_k0 hSJ, o78])) ln78 (pd78 (aR J) (aI 3)) <| ok_aloadn (pc' := 1) i78_0 rfl rfl <| ok_iloadn (pc' := 2) i78_1 rfl rfl <| ok_putfj (kk := 8) (pc' := 5) i78_2 o78 pi78_147 (ShParser_k0 hSJ) rfl rfl <| ok_iconst (pc' := 6) i78_5 rfl <| ok_iretz i78_6 rt78 (by decide) <| ?_
          refine kt_v (pc' := 67) rfl <| ok_iretz i81_67 rt81 (by decide) <| ?_
          have e : kindL by_ n q s w a = .inl (3, (stS by_ n (enS by_ n a))) := by unfold kindL; rw [if_neg (by omega), if_neg (by omega), if_neg (by omega), if_pos (by omega)]
          exact ⟨by rw [e]; rfl, rfl, by rw [e]; exact ⟨rd_eq, rd_ni (by decide) (p6.2.1), fun a h1 h2 => by rw [up2_na (by omega)]; exact (p6.2.2.2.2.2.2 a (by omega)).trans (p3.2.2.2.2.2.2 a (by omega))⟩, fun y c4 c5 c6 c7 c8 => by rw [up2_rd, if_neg (by omega)]; exact (p6.2.2.2.2.2.1 y c4 c5 c6 c7 c8).trans (p3.2.2.2.2.2.1 y c4 c5 c6 c7 c8), fun c hc => by rw [up2_na (by omega)]; exact (p6.2.2.2.2.2.2 c (by omega)).trans (p3.2.2.2.2.2.2 c (by omega))⟩
      · refine ok_iconst (pc' := 46) i81_45 rfl <| ok_iretz i81_46 rt81 (by decide) <| ?_
        have e : kindL by_ n q s w a = .inl ((nuC by_ n 1 99 (enS by_ n a)), (stS by_ n (enS by_ n a))) := by unfold kindL; rw [if_neg (by omega), if_neg (by omega), if_pos (by omega)]
        exact ⟨by rw [e]; rfl, rfl, by rw [e]; exact ⟨p6.2.2.2.2.1 (nu_bad (by omega)), p6.2.1, fun a h1 h2 => (p6.2.2.2.2.2.2 a (by omega)).trans (p3.2.2.2.2.2.2 a (by omega))⟩, fun y c4 c5 c6 c7 c8 => (p6.2.2.2.2.2.1 y c4 c5 c6 c7 c8).trans (p3.2.2.2.2.2.1 y c4 c5 c6 c7 c8), fun c hc => (p6.2.2.2.2.2.2 c (by omega)).trans (p3.2.2.2.2.2.2 c (by omega))⟩
    · refine ok_iconst (pc' := 29) i81_28 rfl <| ok_iretz i81_29 rt81 (by decide) <| ?_
      have e : kindL by_ n q s w a = .inl ((nuC by_ n 1 200 a), (stS by_ n a)) := by unfold kindL; rw [if_neg (by omega), if_pos (by omega)]
      exact ⟨by rw [e]; rfl, rfl, by rw [e]; exact ⟨p3.2.2.2.2.1 (nu_bad (by omega)), p3.2.1, fun a h1 h2 => p3.2.2.2.2.2.2 a (by omega)⟩, fun y c4 c5 c6 c7 c8 => p3.2.2.2.2.2.1 y c4 c5 c6 c7 c8, fun c hc => p3.2.2.2.2.2.2 c (by omega)⟩
  · refine ok_aloadn (pc' := 12) i81_11 rfl rfl <| ok_iconst (pc' := 13) i81_12 rfl <| ok_cc i81_13 rfl (cl_v o81 m3_44 na78 rfl rfl (bt rfl) (bt rfl) rfl (by rw [ShParser_k0 hSJ, o78])) ln78 (pd78 (aR J) (aI 4)) <| ok_aloadn (pc' := 1) i78_0 rfl rfl <| ok_iloadn (pc' := 2) i78_1 rfl rfl <| ok_putfj (kk := 8) (pc' := 5) i78_2 o78 pi78_147 (ShParser_k0 hSJ) rfl rfl <| ok_iconst (pc' := 6) i78_5 rfl <| ok_iretz i78_6 rt78 (by decide) <| ?_
    refine kt_v (pc' := 16) rfl <| ok_iretz i81_16 rt81 (by decide) <| ?_
    have e : kindL by_ n q s w a = .inl (4, w) := by unfold kindL; rw [if_pos (by omega)]
    exact ⟨by rw [e]; rfl, rfl, by rw [e]; exact ⟨rd_eq, rd_ni (by decide) (j5), fun a h1 h2 => by rw [up2_na (by omega)]⟩, fun y c4 c5 c6 c7 c8 => by rw [up2_rd, if_neg (by omega)], fun c hc => by rw [up2_na (by omega)]⟩
theorem t83 {g : AG} {M : AM} {J Z P B : Nat} {by_ q s : Int → Int} {n a b : Int} {w : Int} (hSJ : ShParser g J Z P B) (hSZ : ShBytes g Z) (hSP : ShPlan g P) (hSB : ShState g B) (hgeo : Z < J ∧ J < P ∧ P + 11 ≤ B) (hZ : InZ M Z by_) (j3 : M J 3 = n) (hn : 0 ≤ n ∧ n ≤ 700) (ha : 0 ≤ a ∧ a ≤ n) (j4 : M J 4 = a) (hRP : RepP M P q) (hRB : RepS M B s) (hV : Val b q s) (hQ : ValQ q) (j5 : M J 5 = w) :
    Ok 4 83 0 [aR J, aU, aU, aU] [] g M (Rt (some (aI (lrB (ordL by_ n q s w a)))) g (fun M9 => LPo M M9 J P B (ordL by_ n q s w a) ∧ (∀ y : Int, y ≠ 4 → y ≠ 5 → y ≠ 6 → y ≠ 7 → y ≠ 8 → M9 J y = M J y) ∧ ∀ c, (c < J ∨ B + 24 ≤ c) → M9 c = M c)) := by
  have ys3 : 0 ≤ s 3 ∧ s 3 ≤ 80 := V_3 hV
  have ys4 : 0 ≤ s 4 ∧ s 4 ≤ 16 := V_4 hV
  have yq0 : 0 ≤ q 0 ∧ q 0 ≤ 4 := Q_0 hQ
  have yq1 : 0 ≤ q 1 ∧ q 1 ≤ 6 := Q_1 hQ
  refine ok_aloadn (pc' := 1) i83_0 rfl rfl <| ok_getfr (r := B) (pc' := 4) i83_1 o83 gr3_21 (ShParser_k0 hSJ) (ShParser_r2 hSJ) rfl <| ok_getfi (v := (s 4)) (pc' := 7) i83_4 o83 gi3_72 (ShState_k0 hSB) (RepS_f4 hRB) rfl <| ok_bipush (v := 12) (pc' := 9) i83_7 rfl rfl <| ?_
  refine ok_clt (pc1 := 18) (pc2 := 12) i83_9 (by omega) rfl rfl (fun h1 => ?_) (fun h1 => ?_)
  · refine ok_aloadn (pc' := 19) i83_18 rfl rfl <| ok_iconst (pc' := 20) i83_19 rfl <| ok_sipush (v := 200) (pc' := 23) i83_20 rfl rfl <| ?_
    refine ok_cn (pc' := 26) (d0 := 3) i83_23 rfl (cl_v o83 m3_86 na79 rfl rfl (bt rfl) (bt rfl) rfl (by rw [ShParser_k0 hSJ, o79])) ln79 (pd79 (aR J) (aI 1) (aI 200)) (by omega) (t79 (a := a) (x1 := 1) (x2 := 200) hSJ hSZ (by omega) hZ j3 hn (by omega) j4 (by omega) (by omega)) rfl (fun M2 p3 => ?_)
    have z1 : a ≤ (stS by_ n a) ∧ (stS by_ n a) ≤ n ∧ (stS by_ n a) ≤ (enS by_ n a) ∧ (enS by_ n a) ≤ n := (by have h9 := en_rg (by_ := by_) (n := n) (a := a) (by omega); exact ⟨h9.1, h9.2.1, h9.2.2.1, h9.2.2.2.1⟩)
    have z2 : 0 ≤ (nuB by_ n 1 200 a) ∧ (nuB by_ n 1 200 a) ≤ 1 := nuB_rg
    have hZM2 : InZ M2 Z by_ := fun i h0 h1 => by rw [p3.2.2.2.2.2.2 Z (by omega)]; exact hZ i h0 h1
    have hPM2 : RepP M2 P q := RepP.fr hRP (fun a h1 h2 => p3.2.2.2.2.2.2 a (by omega))
    have hSM2 : RepS M2 B s := RepS.fr hRB (fun a h1 h2 => p3.2.2.2.2.2.2 a (by omega))
    refine ok_zne (pc1 := 31) (pc2 := 29) i83_26 (by omega) rfl rfl (fun h4 => ?_) (fun h4 => ?_)
    · refine ok_aloadn (pc' := 32) i83_31 rfl rfl <| ?_
      have z3 : 1 ≤ (vaS by_ n a) ∧ (vaS by_ n a) ≤ 200 := (nu_ok (by omega)).2.2
      refine ok_getfi (v := (vaS by_ n a)) (pc' := 35) i83_32 o83 gi3_94 (ShParser_k0 hSJ) (p3.2.2.2.1 (nu_ok (by omega)).1) rfl <| ok_istoren (pc' := 36) (ls' := [aR J, aI (vaS by_ n a), aU, aU]) i83_35 (bt rfl) rfl rfl <| ok_aloadn (pc' := 37) i83_36 rfl rfl <| ok_iconst (pc' := 38) i83_37 rfl <| ok_bipush (v := 9) (pc' := 40) i83_38 rfl rfl <| ?_
      refine ok_cn (pc' := 43) (d0 := 3) i83_40 rfl (cl_v o83 m3_86 na79 rfl rfl (bt rfl) (bt rfl) rfl (by rw [ShParser_k0 hSJ, o79])) ln79 (pd79 (aR J) (aI 1) (aI 9)) (by omega) (t79 (a := (enS by_ n a)) (x1 := 1) (x2 := 9) hSJ hSZ (by omega) hZM2 ((p3.2.2.2.2.2.1 3 (by decide) (by decide) (by decide) (by decide) (by decide)).trans j3) hn (by omega) p3.1 (by omega) (by omega)) rfl (fun M5 p6 => ?_)
      have z4 : (enS by_ n a) ≤ (stS by_ n (enS by_ n a)) ∧ (stS by_ n (enS by_ n a)) ≤ n ∧ (stS by_ n (enS by_ n a)) ≤ (enS by_ n (enS by_ n a)) ∧ (enS by_ n (enS by_ n a)) ≤ n := (by have h9 := en_rg (by_ := by_) (n := n) (a := (enS by_ n a)) (by omega); exact ⟨h9.1, h9.2.1, h9.2.2.1, h9.2.2.2.1⟩)
      have z5 : 0 ≤ (nuB by_ n 1 9 (enS by_ n a)) ∧ (nuB by_ n 1 9 (enS by_ n a)) ≤ 1 := nuB_rg
      have hZM5 : InZ M5 Z by_ := fun i h0 h1 => by rw [p6.2.2.2.2.2.2 Z (by omega)]; exact hZM2 i h0 h1
      have hPM5 : RepP M5 P q := RepP.fr hPM2 (fun a h1 h2 => p6.2.2.2.2.2.2 a (by omega))
      have hSM5 : RepS M5 B s := RepS.fr hSM2 (fun a h1 h2 => p6.2.2.2.2.2.2 a (by omega))
      refine ok_zne (pc1 := 48) (pc2 := 46) i83_43 (by omega) rfl rfl (fun h7 => ?_) (fun h7 => ?_)
      · refine ok_aloadn (pc' := 49) i83_48 rfl rfl <| ?_
        have z6 : 1 ≤ (vaS by_ n (enS by_ n a)) ∧ (vaS by_ n (enS by_ n a)) ≤ 9 := (nu_ok (by omega)).2.2
        refine ok_getfi (v := (vaS by_ n (enS by_ n a))) (pc' := 52) i83_49 o83 gi3_94 (ShParser_k0 hSJ) (p6.2.2.2.1 (nu_ok (by omega)).1) rfl <| ok_istoren (pc' := 53) (ls' := [aR J, aI (vaS by_ n a), aI (vaS by_ n (enS by_ n a)), aU]) i83_52 (bt rfl) rfl rfl <| ok_aloadn (pc' := 54) i83_53 rfl rfl <| ok_iconst (pc' := 55) i83_54 rfl <| ok_bipush (v := 99) (pc' := 57) i83_55 rfl rfl <| ?_
        refine ok_cn (pc' := 60) (d0 := 3) i83_57 rfl (cl_v o83 m3_86 na79 rfl rfl (bt rfl) (bt rfl) rfl (by rw [ShParser_k0 hSJ, o79])) ln79 (pd79 (aR J) (aI 0) (aI 99)) (by omega) (t79 (a := (enS by_ n (enS by_ n a))) (x1 := 0) (x2 := 99) hSJ hSZ (by omega) hZM5 ((p6.2.2.2.2.2.1 3 (by decide) (by decide) (by decide) (by decide) (by decide)).trans ((p3.2.2.2.2.2.1 3 (by decide) (by decide) (by decide) (by decide) (by decide)).trans j3)) hn (by omega) p6.1 (by omega) (by omega)) rfl (fun M8 p9 => ?_)
        have z7 : (enS by_ n (enS by_ n a)) ≤ (stS by_ n (enS by_ n (enS by_ n a))) ∧ (stS by_ n (enS by_ n (enS by_ n a))) ≤ n ∧ (stS by_ n (enS by_ n (enS by_ n a))) ≤ (enS by_ n (enS by_ n (enS by_ n a))) ∧ (enS by_ n (enS by_ n (enS by_ n a))) ≤ n := (by have h9 := en_rg (by_ := by_) (n := n) (a := (enS by_ n (enS by_ n a))) (by omega); exact ⟨h9.1, h9.2.1, h9.2.2.1, h9.2.2.2.1⟩)
        have z8 : 0 ≤ (nuB by_ n 0 99 (enS by_ n (enS by_ n a))) ∧ (nuB by_ n 0 99 (enS by_ n (enS by_ n a))) ≤ 1 := nuB_rg
        have hZM8 : InZ M8 Z by_ := fun i h0 h1 => by rw [p9.2.2.2.2.2.2 Z (by omega)]; exact hZM5 i h0 h1
        have hPM8 : RepP M8 P q := RepP.fr hPM5 (fun a h1 h2 => p9.2.2.2.2.2.2 a (by omega))
        have hSM8 : RepS M8 B s := RepS.fr hSM5 (fun a h1 h2 => p9.2.2.2.2.2.2 a (by omega))
        refine ok_zne (pc1 := 65) (pc2 := 63) i83_60 (by omega) rfl rfl (fun h10 => ?_) (fun h10 => ?_)
        · refine ok_aloadn (pc' := 66) i83_65 rfl rfl <| ?_
          have z9 : 0 ≤ (vaS by_ n (enS by_ n (enS by_ n a))) ∧ (vaS by_ n (enS by_ n (enS by_ n a))) ≤ 99 := (nu_ok (by omega)).2.2
          refine ok_getfi (v := (vaS by_ n (enS by_ n (enS by_ n a)))) (pc' := 69) i83_66 o83 gi3_94 (ShParser_k0 hSJ) (p9.2.2.2.1 (nu_ok (by omega)).1) rfl <| ok_istoren (pc' := 70) (ls' := [aR J, aI (vaS by_ n a), aI (vaS by_ n (enS by_ n a)), aI (vaS by_ n (enS by_ n (enS by_ n a)))]) i83_69 (bt rfl) rfl rfl <| ok_aloadn (pc' := 71) i83_70 rfl rfl <| ok_iconst (pc' := 72) i83_71 rfl <| ok_bipush (v := 99) (pc' := 74) i83_72 rfl rfl <| ?_
          refine ok_cn (pc' := 77) (d0 := 3) i83_74 rfl (cl_v o83 m3_86 na79 rfl rfl (bt rfl) (bt rfl) rfl (by rw [ShParser_k0 hSJ, o79])) ln79 (pd79 (aR J) (aI 0) (aI 99)) (by omega) (t79 (a := (enS by_ n (enS by_ n (enS by_ n a)))) (x1 := 0) (x2 := 99) hSJ hSZ (by omega) hZM8 ((p9.2.2.2.2.2.1 3 (by decide) (by decide) (by decide) (by decide) (by decide)).trans ((p6.2.2.2.2.2.1 3 (by decide) (by decide) (by decide) (by decide) (by decide)).trans ((p3.2.2.2.2.2.1 3 (by decide) (by decide) (by decide) (by decide) (by decide)).trans j3))) hn (by omega) p9.1 (by omega) (by omega)) rfl (fun M11 p12 => ?_)
          have z10 : (enS by_ n (enS by_ n (enS by_ n a))) ≤ (stS by_ n (enS by_ n (enS by_ n (enS by_ n a)))) ∧ (stS by_ n (enS by_ n (enS by_ n (enS by_ n a)))) ≤ n ∧ (stS by_ n (enS by_ n (enS by_ n (enS by_ n a)))) ≤ (enS by_ n (enS by_ n (enS by_ n (enS by_ n a)))) ∧ (enS by_ n (enS by_ n (enS by_ n (enS by_ n a)))) ≤ n := (by have h9 := en_rg (by_ := by_) (n := n) (a := (enS by_ n (enS by_ n (enS by_ n a)))) (by omega); exact ⟨h9.1, h9.2.1, h9.2.2.1, h9.2.2.2.1⟩)
          have z11 : 0 ≤ (nuB by_ n 0 99 (enS by_ n (enS by_ n (enS by_ n a)))) ∧ (nuB by_ n 0 99 (enS by_ n (enS by_ n (enS by_ n a)))) ≤ 1 := nuB_rg
          have hZM11 : InZ M11 Z by_ := fun i h0 h1 => by rw [p12.2.2.2.2.2.2 Z (by omega)]; exact hZM8 i h0 h1
          have hPM11 : RepP M11 P q := RepP.fr hPM8 (fun a h1 h2 => p12.2.2.2.2.2.2 a (by omega))
          have hSM11 : RepS M11 B s := RepS.fr hSM8 (fun a h1 h2 => p12.2.2.2.2.2.2 a (by omega))
          refine ok_zne (pc1 := 82) (pc2 := 80) i83_77 (by omega) rfl rfl (fun h13 => ?_) (fun h13 => ?_)
          · refine ok_aloadn (pc' := 83) i83_82 rfl rfl <| ok_getfr (r := B) (pc' := 86) i83_83 o83 gr3_21 (ShParser_k0 hSJ) (ShParser_r2 hSJ) rfl <| ok_iloadn (pc' := 87) i83_86 rfl rfl <| ok_iloadn (pc' := 88) i83_87 rfl rfl <| ok_iloadn (pc' := 89) i83_88 rfl rfl <| ok_aloadn (pc' := 90) i83_89 rfl rfl <| ?_
            have z12 : 0 ≤ (vaS by_ n (enS by_ n (enS by_ n (enS by_ n a)))) ∧ (vaS by_ n (enS by_ n (enS by_ n (enS by_ n a)))) ≤ 99 := (nu_ok (by omega)).2.2
            refine ok_getfi (v := (vaS by_ n (enS by_ n (enS by_ n (enS by_ n a))))) (pc' := 93) i83_90 o83 gi3_94 (ShParser_k0 hSJ) (p12.2.2.2.1 (nu_ok (by omega)).1) rfl <| ?_
            refine ok_cn (pc' := 96) (d0 := 0) i83_93 rfl (cl_v o83 m3_134 na16 rfl rfl (bt rfl) (bt rfl) rfl (by rw [ShState_k0 hSB, o16])) ln16 (pd16 (aR B) (aI (vaS by_ n a)) (aI (vaS by_ n (enS by_ n a))) (aI (vaS by_ n (enS by_ n (enS by_ n a)))) (aI (vaS by_ n (enS by_ n (enS by_ n (enS by_ n a)))))) (by omega) (t16 (x1 := (vaS by_ n a)) (x2 := (vaS by_ n (enS by_ n a))) (x3 := (vaS by_ n (enS by_ n (enS by_ n a)))) (x4 := (vaS by_ n (enS by_ n (enS by_ n (enS by_ n a))))) hSB hSM11 hV hQ (by omega)) rfl (fun M14 p15 => ?_)
            have hPM14 : RepP M14 P q := RepP.fr hPM11 (fun a h1 h2 => p15.2 a (by omega))
            refine ok_pop (pc' := 97) i83_96 rfl rfl <| ok_iconst (pc' := 98) i83_97 rfl <| ok_iretz i83_98 rt83 (by decide) <| ?_
            have e : ordL by_ n q s w a = .inr (enS by_ n (enS by_ n (enS by_ n (enS by_ n a))), q, ordS s (vaS by_ n a) (vaS by_ n (enS by_ n a)) (vaS by_ n (enS by_ n (enS by_ n a))) (vaS by_ n (enS by_ n (enS by_ n (enS by_ n a))))) := by unfold ordL; rw [if_neg (by omega), if_neg (by omega), if_neg (by omega), if_neg (by omega), if_neg (by omega)]
            exact ⟨by rw [e]; rfl, rfl, by rw [e]; exact ⟨(by rw [p15.2 J (by omega)]; exact p12.1), hPM14, p15.1⟩, fun y c4 c5 c6 c7 c8 => ((congrFun (p15.2 J (by omega)) y)).trans ((p12.2.2.2.2.2.1 y c4 c5 c6 c7 c8).trans ((p9.2.2.2.2.2.1 y c4 c5 c6 c7 c8).trans ((p6.2.2.2.2.2.1 y c4 c5 c6 c7 c8).trans (p3.2.2.2.2.2.1 y c4 c5 c6 c7 c8)))), fun c hc => (p15.2 c (by omega)).trans ((p12.2.2.2.2.2.2 c (by omega)).trans ((p9.2.2.2.2.2.2 c (by omega)).trans ((p6.2.2.2.2.2.2 c (by omega)).trans (p3.2.2.2.2.2.2 c (by omega)))))⟩
          · refine ok_iconst (pc' := 81) i83_80 rfl <| ok_iretz i83_81 rt83 (by decide) <| ?_
            have e : ordL by_ n q s w a = .inl ((nuC by_ n 0 99 (enS by_ n (enS by_ n (enS by_ n a)))), (stS by_ n (enS by_ n (enS by_ n (enS by_ n a))))) := by unfold ordL; rw [if_neg (by omega), if_neg (by omega), if_neg (by omega), if_neg (by omega), if_pos (by omega)]
            exact ⟨by rw [e]; rfl, rfl, by rw [e]; exact ⟨p12.2.2.2.2.1 (nu_bad (by omega)), p12.2.1, fun a h1 h2 => (p12.2.2.2.2.2.2 a (by omega)).trans ((p9.2.2.2.2.2.2 a (by omega)).trans ((p6.2.2.2.2.2.2 a (by omega)).trans (p3.2.2.2.2.2.2 a (by omega))))⟩, fun y c4 c5 c6 c7 c8 => (p12.2.2.2.2.2.1 y c4 c5 c6 c7 c8).trans ((p9.2.2.2.2.2.1 y c4 c5 c6 c7 c8).trans ((p6.2.2.2.2.2.1 y c4 c5 c6 c7 c8).trans (p3.2.2.2.2.2.1 y c4 c5 c6 c7 c8))), fun c hc => (p12.2.2.2.2.2.2 c (by omega)).trans ((p9.2.2.2.2.2.2 c (by omega)).trans ((p6.2.2.2.2.2.2 c (by omega)).trans (p3.2.2.2.2.2.2 c (by omega))))⟩
        · refine ok_iconst (pc' := 64) i83_63 rfl <| ok_iretz i83_64 rt83 (by decide) <| ?_
          have e : ordL by_ n q s w a = .inl ((nuC by_ n 0 99 (enS by_ n (enS by_ n a))), (stS by_ n (enS by_ n (enS by_ n a)))) := by unfold ordL; rw [if_neg (by omega), if_neg (by omega), if_neg (by omega), if_pos (by omega)]
          exact ⟨by rw [e]; rfl, rfl, by rw [e]; exact ⟨p9.2.2.2.2.1 (nu_bad (by omega)), p9.2.1, fun a h1 h2 => (p9.2.2.2.2.2.2 a (by omega)).trans ((p6.2.2.2.2.2.2 a (by omega)).trans (p3.2.2.2.2.2.2 a (by omega)))⟩, fun y c4 c5 c6 c7 c8 => (p9.2.2.2.2.2.1 y c4 c5 c6 c7 c8).trans ((p6.2.2.2.2.2.1 y c4 c5 c6 c7 c8).trans (p3.2.2.2.2.2.1 y c4 c5 c6 c7 c8)), fun c hc => (p9.2.2.2.2.2.2 c (by omega)).trans ((p6.2.2.2.2.2.2 c (by omega)).trans (p3.2.2.2.2.2.2 c (by omega)))⟩
      · refine ok_iconst (pc' := 47) i83_46 rfl <| ok_iretz i83_47 rt83 (by decide) <| ?_
        have e : ordL by_ n q s w a = .inl ((nuC by_ n 1 9 (enS by_ n a)), (stS by_ n (enS by_ n a))) := by unfold ordL; rw [if_neg (by omega), if_neg (by omega), if_pos (by omega)]
        exact ⟨by rw [e]; rfl, rfl, by rw [e]; exact ⟨p6.2.2.2.2.1 (nu_bad (by omega)), p6.2.1, fun a h1 h2 => (p6.2.2.2.2.2.2 a (by omega)).trans (p3.2.2.2.2.2.2 a (by omega))⟩, fun y c4 c5 c6 c7 c8 => (p6.2.2.2.2.2.1 y c4 c5 c6 c7 c8).trans (p3.2.2.2.2.2.1 y c4 c5 c6 c7 c8), fun c hc => (p6.2.2.2.2.2.2 c (by omega)).trans (p3.2.2.2.2.2.2 c (by omega))⟩
    · refine ok_iconst (pc' := 30) i83_29 rfl <| ok_iretz i83_30 rt83 (by decide) <| ?_
      have e : ordL by_ n q s w a = .inl ((nuC by_ n 1 200 a), (stS by_ n a)) := by unfold ordL; rw [if_neg (by omega), if_pos (by omega)]
      exact ⟨by rw [e]; rfl, rfl, by rw [e]; exact ⟨p3.2.2.2.2.1 (nu_bad (by omega)), p3.2.1, fun a h1 h2 => p3.2.2.2.2.2.2 a (by omega)⟩, fun y c4 c5 c6 c7 c8 => p3.2.2.2.2.2.1 y c4 c5 c6 c7 c8, fun c hc => p3.2.2.2.2.2.2 c (by omega)⟩
  · refine ok_aloadn (pc' := 13) i83_12 rfl rfl <| ok_iconst (pc' := 14) i83_13 rfl <| ok_cc i83_14 rfl (cl_v o83 m3_44 na78 rfl rfl (bt rfl) (bt rfl) rfl (by rw [ShParser_k0 hSJ, o78])) ln78 (pd78 (aR J) (aI 4)) <| ok_aloadn (pc' := 1) i78_0 rfl rfl <| ok_iloadn (pc' := 2) i78_1 rfl rfl <| ok_putfj (kk := 8) (pc' := 5) i78_2 o78 pi78_147 (ShParser_k0 hSJ) rfl rfl <| ok_iconst (pc' := 6) i78_5 rfl <| ok_iretz i78_6 rt78 (by decide) <| ?_
    refine kt_v (pc' := 17) rfl <| ok_iretz i83_17 rt83 (by decide) <| ?_
    have e : ordL by_ n q s w a = .inl (4, w) := by unfold ordL; rw [if_pos (by omega)]
    exact ⟨by rw [e]; rfl, rfl, by rw [e]; exact ⟨rd_eq, rd_ni (by decide) (j5), fun a h1 h2 => by rw [up2_na (by omega)]⟩, fun y c4 c5 c6 c7 c8 => by rw [up2_rd, if_neg (by omega)], fun c hc => by rw [up2_na (by omega)]⟩

