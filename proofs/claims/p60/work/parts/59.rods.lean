/-! RODS AND PATTERN LINES: the class (by program, wip/gen) -/
/-! RODS AND PATTERN LINES: the class -/
def rodsL (by_ : Int → Int) (n : Int) (q s : Int → Int) (w a : Int) : LR := if (nuB by_ n 0 (q 0 - 1) a) = 0 then .inl (nuC by_ n 0 (q 0 - 1) a, stS by_ n a) else if (nuB by_ n 1 9 (enS by_ n a)) = 0 then .inl (nuC by_ n 1 9 (enS by_ n a), stS by_ n (enS by_ n a)) else if 24 < (s 3 + (vaS by_ n (enS by_ n a))) then .inl (4, stS by_ n (enS by_ n a)) else .inr (enS by_ n (enS by_ n a), q, itv (fun _ t => addT t (vaS by_ n a) (q (2 + vaS by_ n a))) s 0 (vaS by_ n (enS by_ n a)).toNat)
def ptnN (by_ : Int → Int) (n : Int) (s : Int → Int) : Nat → Int → (Int → Int) → LR
  | 0, a, q => if dgB by_ n a = 0 then .inr (stS by_ n a, q, s) else if (nuB by_ n 1 200 (stS by_ n a)) = 0 then .inl (nuC by_ n 1 200 (stS by_ n a), stS by_ n (stS by_ n a)) else .inl (4, stS by_ n (stS by_ n a))
  | k + 1, a, q => if dgB by_ n a = 0 then .inr (stS by_ n a, q, s) else if (nuB by_ n 1 200 (stS by_ n a)) = 0 then .inl (nuC by_ n 1 200 (stS by_ n a), stS by_ n (stS by_ n a)) else ptnN by_ n s k (enS by_ n (stS by_ n a)) (extP q (vaS by_ n (stS by_ n a)))
def ptnL (by_ : Int → Int) (n : Int) (q s : Int → Int) (w a : Int) : LR := if 6 ≤ q 1 then .inl (4, w) else if (nuB by_ n 1 200 a) = 0 then .inl (nuC by_ n 1 200 a, stS by_ n a) else ptnN by_ n s 5 (enS by_ n a) (extP (entP q) (vaS by_ n a))
theorem RepP_extP {M : AM} {P : Nat} {q : Int → Int} {l z p : Int} {A : Nat} (h : RepP M P q) (c0 : q 0 ≤ 4) (hp : p = q 1 - 1) (c1 : 0 ≤ p ∧ p < 6) (hz : z = q (10 + (q 1 - 1))) (cz : 0 ≤ z ∧ z < 6) (cw : ∀ w : Int, 0 ≤ w → w < p → q (10 + w) ≤ 6) (hA : A = P + 5 + p.toNat) : RepP (up2 (up2 M A z l) (P + 3) p (z + 1)) P (extP q l) := by
  obtain ⟨h0, h3, h1, h2, h4, h5⟩ := h
  have eh : ∀ k : Int, k ≠ 10 + p → k ≠ 16 + (6 * p + z) → extP q l k = q k := fun k hk hk2 => by unfold extP; rw [upI_ne (by omega), upI_ne (by omega)]
  have e10 : extP q l (10 + p) = z + 1 := by unfold extP; rw [← hp, upI_eq, hz, hp]
  have e16 : extP q l (16 + (6 * p + z)) = l := by unfold extP; rw [upI_ne (by omega), ← hp, hz, ← hp]; exact upI_eq
  refine ⟨by rw [eh _ (by omega) (by omega), up2_na (by omega), up2_na (by omega)]; exact h0, by rw [eh _ (by omega) (by omega), up2_na (by omega), up2_na (by omega)]; exact h3, ?_, ?_, ?_, ?_⟩
  · intro i g0 g1
    rw [eh _ (by omega) (by omega)] at g1
    rw [eh _ (by omega) (by omega), up2_na (by omega), up2_na (by omega)]; exact h1 i g0 g1
  · intro i g0 g1
    rw [eh _ (by omega) (by omega)] at g1
    rw [eh _ (by omega) (by omega), up2_na (by omega), up2_na (by omega)]; exact h2 i g0 g1
  · intro i g0 g1
    rw [eh _ (by omega) (by omega)] at g1
    by_cases hi : i = p
    · rw [hi, e10]; exact rd_eq
    · rw [eh _ (by omega) (by omega), up2_rd, if_neg (by omega), up2_na (by omega)]; exact h4 i g0 g1
  · intro w hw hw2 i g0 g1
    rw [eh 1 (by omega) (by omega)] at hw2
    by_cases hq : (w : Int) = p
    · rw [hq, e10] at g1
      by_cases hi : i = z
      · rw [hq, hi, e16, up2_na (by omega), show P + 5 + w = A by omega]; exact rd_eq
      · rw [eh _ (by omega) (by omega), up2_na (by omega), up2_rd, if_neg (by omega)]
        exact h5 w hw hw2 i g0 (by rw [show (10 + (w : Int)) = 10 + (q 1 - 1) by omega]; omega)
    · rw [eh _ (by omega) (by omega)] at g1
      have := cw w (by omega) (by omega)
      rw [eh _ (by omega) (by omega), up2_na (by omega), up2_na (by omega)]
      exact h5 w hw hw2 i g0 g1
theorem extP_1 {q : Int → Int} {l : Int} (h : 1 ≤ q 1) (hz : 0 ≤ q (10 + (q 1 - 1))) : extP q l 1 = q 1 ∧ extP q l 0 = q 0 ∧ extP q l (10 + (q 1 - 1)) = q (10 + (q 1 - 1)) + 1 := by
  unfold extP
  exact ⟨by rw [upI_ne (by omega), upI_ne (by omega)], by rw [upI_ne (by omega), upI_ne (by omega)], upI_eq⟩
theorem VQ_ext {q : Int → Int} {l : Int} (h : ValQ q) (h1 : 1 ≤ q 1) (hz : q (10 + (q 1 - 1)) < 6) (hl : 1 ≤ l ∧ l ≤ 200) : ValQ (extP q l) := by
  obtain ⟨c0, c1, hk, hp⟩ := h
  have hp0 := (hp (q 1 - 1) (by omega) (by omega)).1
  obtain ⟨e1, e0, e2⟩ := extP_1 (l := l) h1 (by omega)
  have eh : ∀ k : Int, k ≠ 10 + (q 1 - 1) → k ≠ 16 + (6 * (q 1 - 1) + q (10 + (q 1 - 1))) → extP q l k = q k := fun k hk hk2 => by unfold extP; rw [upI_ne (by omega), upI_ne (by omega)]
  refine ⟨by rw [e0]; exact c0, by rw [e1]; exact c1, ?_, ?_⟩
  · intro i g0 g1
    rw [e0] at g1
    rw [eh _ (by omega) (by omega), eh _ (by omega) (by omega)]; exact hk i g0 g1
  · intro p g0 g1
    rw [e1] at g1
    have hpp := hp p g0 g1
    by_cases hq : p = q 1 - 1
    · rw [hq, e2]
      refine ⟨by omega, fun i g2 g3 => ?_⟩
      by_cases hi : i = q (10 + (q 1 - 1))
      · rw [hi, show extP q l (16 + (6 * (q 1 - 1) + q (10 + (q 1 - 1)))) = l by unfold extP; rw [upI_ne (by omega)]; exact upI_eq]; exact hl
      · rw [eh _ (by omega) (by omega)]; rw [hq] at hpp; exact hpp.2 i g2 (by omega)
    · rw [eh _ (by omega) (by omega)]
      refine ⟨hpp.1, fun i g2 g3 => ?_⟩
      rw [eh _ (by omega) (by omega)]; exact hpp.2 i g2 g3
theorem entP_f {q : Int → Int} (h : 0 ≤ q 1) : entP q 1 = q 1 + 1 ∧ entP q (10 + q 1) = 0 ∧ ∀ k : Int, k ≠ 1 → k ≠ 10 + q 1 → entP q k = q k := by
  unfold entP
  exact ⟨upI_eq, by rw [upI_ne (by omega)]; exact upI_eq, fun k h1 h2 => by rw [upI_ne h1, upI_ne h2]⟩
theorem VQ_first {q : Int → Int} {l : Int} (h : ValQ q) (h1 : q 1 < 6) (hl : 1 ≤ l ∧ l ≤ 200) : ValQ (extP (entP q) l) ∧ extP (entP q) l 1 = q 1 + 1 ∧ extP (entP q) l (10 + (q 1 + 1 - 1)) = 1 := by
  obtain ⟨c0, c1, hk, hp⟩ := h
  obtain ⟨f1, f2, f3⟩ := entP_f (q := q) c1.1
  have f4 : entP q (10 + (entP q 1 - 1)) = 0 := by rw [f1, show 10 + (q 1 + 1 - 1) = 10 + q 1 by omega]; exact f2
  obtain ⟨e1, e0, e2⟩ := extP_1 (q := entP q) (l := l) (by omega) (by omega)
  rw [f4, f1] at e2
  have eh : ∀ k : Int, k ≠ 10 + q 1 → k ≠ 16 + 6 * q 1 → extP (entP q) l k = entP q k := fun k hk hk2 => by unfold extP; rw [upI_ne (by omega), upI_ne (by omega)]
  refine ⟨⟨by rw [e0, f3 _ (by omega) (by omega)]; exact c0, by rw [e1]; omega, ?_, ?_⟩, by rw [e1, f1], e2⟩
  · intro i g0 g1
    rw [e0, f3 _ (by omega) (by omega)] at g1
    rw [eh _ (by omega) (by omega), eh _ (by omega) (by omega), f3 _ (by omega) (by omega), f3 _ (by omega) (by omega)]; exact hk i g0 g1
  · intro p g0 g1
    rw [e1, f1] at g1
    by_cases hq : p = q 1
    · rw [hq, show 10 + q 1 = 10 + (q 1 + 1 - 1) by omega, e2]
      refine ⟨by omega, fun i g2 g3 => ?_⟩
      rw [show i = 0 by omega, show (16 + (6 * q 1 + 0)) = (16 + (6 * (entP q 1 - 1) + entP q (10 + (entP q 1 - 1)))) by rw [f4, f1]; omega, show extP (entP q) l (16 + (6 * (entP q 1 - 1) + entP q (10 + (entP q 1 - 1)))) = l by unfold extP; rw [upI_ne (by omega)]; exact upI_eq]; exact hl
    · have hpp := hp p g0 (by omega)
      rw [eh _ (by omega) (by omega), f3 _ (by omega) (by omega)]
      refine ⟨hpp.1, fun i g2 g3 => ?_⟩
      rw [eh _ (by omega) (by omega), f3 _ (by omega) (by omega)]; exact hpp.2 i g2 g3
theorem o82 : am_oc 82 = 3 := by decide +kernel
theorem gi3_69 : am_gfi 3 69 5 2 = true := by decide +kernel
theorem rt82 : am_rt 82 = some .boolean := by decide +kernel
theorem gr3_128 : am_gfr 3 128 4 1 = true := by decide +kernel
theorem m3_131 : am_mlk 3 131 0 15 = true := by decide +kernel
theorem o84 : am_oc 84 = 3 := by decide +kernel
theorem gi3_66 : am_gfi 3 66 4 3 = true := by decide +kernel
theorem m3_138 : am_mlk 3 138 0 11 = true := by decide +kernel
theorem na11 : am_na 11 = 0 := by decide +kernel
theorem nl11 : am_nL 11 = 1 := by decide +kernel
theorem pd11 : ∀ a0 : AV, am_pad 11 [a0] = [a0] := by intros; unfold am_pad; rw [nl11]; rfl
theorem ln11 : 1 ≤ am_nL 11 := by rw [nl11]; decide
theorem o11 : am_oc 11 = 4 := by decide +kernel
theorem gi4_30 : am_gfi 4 30 4 3 = true := by decide +kernel
theorem gr4_18 : am_gfr 4 18 4 4 = true := by decide +kernel
theorem pi11_30 : am_pfi 11 4 30 4 3 = true := by decide +kernel
theorem rt11 : am_rt 11 = none := by decide +kernel
theorem m3_141 : am_mlk 3 141 0 12 = true := by decide +kernel
theorem na12 : am_na 12 = 1 := by decide +kernel
theorem nl12 : am_nL 12 = 3 := by decide +kernel
theorem pd12 : ∀ a0 a1 : AV, am_pad 12 [a0, a1] = [a0, a1, aU] := by intros; unfold am_pad; rw [nl12]; rfl
theorem ln12 : 2 ≤ am_nL 12 := by rw [nl12]; decide
theorem o12 : am_oc 12 = 4 := by decide +kernel
theorem gr4_23 : am_gfr 4 23 4 5 = true := by decide +kernel
theorem rt12 : am_rt 12 = none := by decide +kernel
theorem rt84 : am_rt 84 = some .boolean := by decide +kernel
theorem m3_144 : am_mlk 3 144 0 85 = true := by decide +kernel
theorem na85 : am_na 85 = 0 := by decide +kernel
theorem nl85 : am_nL 85 = 1 := by decide +kernel
theorem pd85 : ∀ a0 : AV, am_pad 85 [a0] = [a0] := by intros; unfold am_pad; rw [nl85]; rfl
theorem ln85 : 1 ≤ am_nL 85 := by rw [nl85]; decide
theorem addT_3 {s : Int → Int} {k l : Int} : addT s k l 3 = s 3 + 1 := upI_eq
theorem t82 {g : AG} {M : AM} {J Z P B : Nat} {by_ q s : Int → Int} {n a b : Int} {w : Int} (hSJ : ShParser g J Z P B) (hSZ : ShBytes g Z) (hSP : ShPlan g P) (hSB : ShState g B) (hgeo : Z < J ∧ J < P ∧ P + 11 ≤ B) (hZ : InZ M Z by_) (j3 : M J 3 = n) (hn : 0 ≤ n ∧ n ≤ 700) (ha : 0 ≤ a ∧ a ≤ n) (j4 : M J 4 = a) (hRP : RepP M P q) (hRB : RepS M B s) (hV : Val b q s) (hQ : ValQ q) (j5 : M J 5 = w) :
    Ok 4 82 0 [aR J, aU, aU] [] g M (Rt (some (aI (lrB (rodsL by_ n q s w a)))) g (fun M9 => LPo M M9 J P B (rodsL by_ n q s w a) ∧ (∀ y : Int, y ≠ 4 → y ≠ 5 → y ≠ 6 → y ≠ 7 → y ≠ 8 → M9 J y = M J y) ∧ ∀ c, (c < J ∨ B + 24 ≤ c) → M9 c = M c)) := by
  have ys3 : 0 ≤ s 3 ∧ s 3 ≤ 80 := V_3 hV
  have ys4 : 0 ≤ s 4 ∧ s 4 ≤ 16 := V_4 hV
  have yq0 : 0 ≤ q 0 ∧ q 0 ≤ 4 := Q_0 hQ
  have yq1 : 0 ≤ q 1 ∧ q 1 ≤ 6 := Q_1 hQ
  refine ok_aloadn (pc' := 1) i82_0 rfl rfl <| ok_iconst (pc' := 2) i82_1 rfl <| ok_aloadn (pc' := 3) i82_2 rfl rfl <| ok_getfr (r := P) (pc' := 6) i82_3 o82 gr3_12 (ShParser_k0 hSJ) (ShParser_r1 hSJ) rfl <| ok_getfi (v := (q 0)) (pc' := 9) i82_6 o82 gi3_63 (ShPlan_k0 hSP) (RepP_f0 hRP) rfl <| ok_iconst (pc' := 10) i82_9 rfl <| ok_isub (v := ((q 0) - 1)) (pc' := 11) i82_10 rfl rfl <| ?_
  refine ok_cn (pc' := 14) (d0 := 3) i82_11 rfl (cl_v o82 m3_86 na79 rfl rfl (bt rfl) (bt rfl) rfl (by rw [ShParser_k0 hSJ, o79])) ln79 (pd79 (aR J) (aI 0) (aI ((q 0) - 1))) (by omega) (t79 (a := a) (x1 := 0) (x2 := ((q 0) - 1)) hSJ hSZ (by omega) hZ j3 hn (by omega) j4 (by omega) (by omega)) rfl (fun M1 p2 => ?_)
  have z1 : a ≤ (stS by_ n a) ∧ (stS by_ n a) ≤ n ∧ (stS by_ n a) ≤ (enS by_ n a) ∧ (enS by_ n a) ≤ n := (by have h9 := en_rg (by_ := by_) (n := n) (a := a) (by omega); exact ⟨h9.1, h9.2.1, h9.2.2.1, h9.2.2.2.1⟩)
  have z2 : 0 ≤ (nuB by_ n 0 ((q 0) - 1) a) ∧ (nuB by_ n 0 ((q 0) - 1) a) ≤ 1 := nuB_rg
  have hZM1 : InZ M1 Z by_ := fun i h0 h1 => by rw [p2.2.2.2.2.2.2 Z (by omega)]; exact hZ i h0 h1
  have hPM1 : RepP M1 P q := RepP.fr hRP (fun a h1 h2 => p2.2.2.2.2.2.2 a (by omega))
  have hSM1 : RepS M1 B s := RepS.fr hRB (fun a h1 h2 => p2.2.2.2.2.2.2 a (by omega))
  refine ok_zne (pc1 := 19) (pc2 := 17) i82_14 (by omega) rfl rfl (fun h3 => ?_) (fun h3 => ?_)
  · refine ok_aloadn (pc' := 20) i82_19 rfl rfl <| ?_
    have z3 : 0 ≤ (vaS by_ n a) ∧ (vaS by_ n a) ≤ ((q 0) - 1) := (nu_ok (by omega)).2.2
    refine ok_getfi (v := (vaS by_ n a)) (pc' := 23) i82_20 o82 gi3_94 (ShParser_k0 hSJ) (p2.2.2.2.1 (nu_ok (by omega)).1) rfl <| ok_istoren (pc' := 24) (ls' := [aR J, aI (vaS by_ n a), aU]) i82_23 (bt rfl) rfl rfl <| ok_aloadn (pc' := 25) i82_24 rfl rfl <| ok_iconst (pc' := 26) i82_25 rfl <| ok_bipush (v := 9) (pc' := 28) i82_26 rfl rfl <| ?_
    refine ok_cn (pc' := 31) (d0 := 3) i82_28 rfl (cl_v o82 m3_86 na79 rfl rfl (bt rfl) (bt rfl) rfl (by rw [ShParser_k0 hSJ, o79])) ln79 (pd79 (aR J) (aI 1) (aI 9)) (by omega) (t79 (a := (enS by_ n a)) (x1 := 1) (x2 := 9) hSJ hSZ (by omega) hZM1 ((p2.2.2.2.2.2.1 3 (by decide) (by decide) (by decide) (by decide) (by decide)).trans j3) hn (by omega) p2.1 (by omega) (by omega)) rfl (fun M4 p5 => ?_)
    have z4 : (enS by_ n a) ≤ (stS by_ n (enS by_ n a)) ∧ (stS by_ n (enS by_ n a)) ≤ n ∧ (stS by_ n (enS by_ n a)) ≤ (enS by_ n (enS by_ n a)) ∧ (enS by_ n (enS by_ n a)) ≤ n := (by have h9 := en_rg (by_ := by_) (n := n) (a := (enS by_ n a)) (by omega); exact ⟨h9.1, h9.2.1, h9.2.2.1, h9.2.2.2.1⟩)
    have z5 : 0 ≤ (nuB by_ n 1 9 (enS by_ n a)) ∧ (nuB by_ n 1 9 (enS by_ n a)) ≤ 1 := nuB_rg
    have hZM4 : InZ M4 Z by_ := fun i h0 h1 => by rw [p5.2.2.2.2.2.2 Z (by omega)]; exact hZM1 i h0 h1
    have hPM4 : RepP M4 P q := RepP.fr hPM1 (fun a h1 h2 => p5.2.2.2.2.2.2 a (by omega))
    have hSM4 : RepS M4 B s := RepS.fr hSM1 (fun a h1 h2 => p5.2.2.2.2.2.2 a (by omega))
    refine ok_zne (pc1 := 36) (pc2 := 34) i82_31 (by omega) rfl rfl (fun h6 => ?_) (fun h6 => ?_)
    · refine ok_aloadn (pc' := 37) i82_36 rfl rfl <| ok_getfr (r := B) (pc' := 40) i82_37 o82 gr3_21 (ShParser_k0 hSJ) (ShParser_r2 hSJ) rfl <| ok_getfi (v := (s 3)) (pc' := 43) i82_40 o82 gi3_69 (ShState_k0 hSB) (RepS_f2 hSM4) rfl <| ok_aloadn (pc' := 44) i82_43 rfl rfl <| ?_
      have z6 : 1 ≤ (vaS by_ n (enS by_ n a)) ∧ (vaS by_ n (enS by_ n a)) ≤ 9 := (nu_ok (by omega)).2.2
      refine ok_getfi (v := (vaS by_ n (enS by_ n a))) (pc' := 47) i82_44 o82 gi3_94 (ShParser_k0 hSJ) (p5.2.2.2.1 (nu_ok (by omega)).1) rfl <| ok_iadd (v := ((s 3) + (vaS by_ n (enS by_ n a)))) (pc' := 48) i82_47 rfl rfl <| ok_bipush (v := 24) (pc' := 50) i82_48 rfl rfl <| ?_
      refine ok_cle (pc1 := 59) (pc2 := 53) i82_50 (by omega) rfl rfl (fun h7 => ?_) (fun h7 => ?_)
      · refine ok_iconst (pc' := 60) i82_59 rfl <| ok_istoren (pc' := 61) (ls' := [aR J, aI (vaS by_ n a), aI 0]) i82_60 (bt rfl) rfl rfl <| ?_
        have hkd := (nu_ok (by_ := by_) (n := n) (lo := 0) (hi := q 0 - 1) (a := a) (by omega)).2.2
        have hnv := (nu_ok (by_ := by_) (n := n) (lo := 1) (hi := 9) (a := (enS by_ n a)) (by omega)).2.2
        have hll := Q_2 hQ (i := (vaS by_ n a)) (by omega) (by omega)
        refine ok_for (lo := 0) (n := (vaS by_ n (enS by_ n a)).toNat) (f := fun _ t => addT t (vaS by_ n a) (q (2 + vaS by_ n a))) (a0 := s) (fun i t ls M9 => RepS M9 B t ∧ Wr B 24 M4 M9 ∧ Val b q t ∧ t 3 = s 3 + i ∧ ls = [aR J, aI (vaS by_ n a), aI i]) ?_ ?_ _ _ ⟨hSM4, Wr.rfl, hV, by omega, rfl⟩
        · rintro i t ls M9 g1 g2 ⟨hR9, hW9, hV9, y4, rfl⟩ ih
          have g3 : i < (vaS by_ n (enS by_ n a)) := by omega
          have y3 := V_3 hV9
          have hP9 : RepP M9 P q := RepP.fr hPM4 (fun a h1 h2 => hW9 a (by omega))
          refine ok_iloadn (pc' := 62) i82_61 rfl rfl <| ok_aloadn (pc' := 63) i82_62 rfl rfl <| ok_getfi (v := (vaS by_ n (enS by_ n a))) (pc' := 66) i82_63 o82 gi3_94 (ShParser_k0 hSJ) (by rw [hW9 J (by omega)]; exact (p5.2.2.2.1 (nu_ok (by omega)).1)) rfl <| ?_
          refine ok_cge (pc1 := 93) (pc2 := 69) i82_66 (by omega) rfl rfl (fun h9 => by exfalso; omega) (fun h1 => ?_)
          refine ok_aloadn (pc' := 70) i82_69 rfl rfl <| ok_getfr (r := B) (pc' := 73) i82_70 o82 gr3_21 (ShParser_k0 hSJ) (ShParser_r2 hSJ) rfl <| ok_iloadn (pc' := 74) i82_73 rfl rfl <| ok_aloadn (pc' := 75) i82_74 rfl rfl <| ok_getfr (r := P) (pc' := 78) i82_75 o82 gr3_12 (ShParser_k0 hSJ) (ShParser_r1 hSJ) rfl <| ok_getfr (r := (P + 1)) (pc' := 81) i82_78 o82 gr3_128 (ShPlan_k0 hSP) (ShPlan_r1 hSP) rfl <| ok_iloadn (pc' := 82) i82_81 rfl rfl <| ?_
          have z61 : 1 ≤ q (2 + (vaS by_ n a)) ∧ q (2 + (vaS by_ n a)) ≤ 200 := Q_2 hQ (i := (vaS by_ n a)) (by omega) (by omega)
          refine ok_iaload (v := (q (2 + (vaS by_ n a)))) (pc' := 83) i82_82 (ShPlan_k1 hSP) (by decide) (ShPlan_l1 hSP) (by omega) (RepP_1 hP9 (by omega) (by omega)) rfl <| ?_
          refine ok_cn (pc' := 86) (d0 := 0) i82_83 rfl (cl_v o82 m3_131 na15 rfl rfl (bt rfl) (bt rfl) rfl (by rw [ShState_k0 hSB, o15])) ln15 (pd15 (aR B) (aI (vaS by_ n a)) (aI (q (2 + (vaS by_ n a))))) (by omega) (t15 (x1 := (vaS by_ n a)) (x2 := (q (2 + (vaS by_ n a)))) hSB hR9 hV9 hQ (by omega)) rfl (fun M2 p3 => ?_)
          refine ok_pop (pc' := 87) i82_86 rfl rfl <| ok_iinc (pc' := 90) (v := (i + 1)) (ls' := [aR J, aI (vaS by_ n a), aI (i + 1)]) i82_87 rfl rfl rfl rfl <| ok_goto (pc' := 61) i82_90 rfl <| ?_
          exact ih _ _ ⟨p3.1, Wr.trans hW9 p3.2, V_add hV9 (by omega) (by omega) (by omega), by rw [addT_3]; omega, rfl⟩
        · rintro i t ls M9 g1 g2 ⟨hR9, hW9, hV9, y4, rfl⟩
          have g3 : i = (vaS by_ n (enS by_ n a)) := by omega
          have y3 := V_3 hV9
          have hP9 : RepP M9 P q := RepP.fr hPM4 (fun a h1 h2 => hW9 a (by omega))
          refine ok_iloadn (pc' := 62) i82_61 rfl rfl <| ok_aloadn (pc' := 63) i82_62 rfl rfl <| ok_getfi (v := (vaS by_ n (enS by_ n a))) (pc' := 66) i82_63 o82 gi3_94 (ShParser_k0 hSJ) (by rw [hW9 J (by omega)]; exact (p5.2.2.2.1 (nu_ok (by omega)).1)) rfl <| ?_
          refine ok_cge (pc1 := 93) (pc2 := 69) i82_66 (by omega) rfl rfl (fun h1 => ?_) (fun h9 => by exfalso; omega)
          refine ok_iconst (pc' := 94) i82_93 rfl <| ok_iretz i82_94 rt82 (by decide) <| ?_
          have e : rodsL by_ n q s w a = .inr ((enS by_ n (enS by_ n a)), q, t) := by unfold rodsL; rw [if_neg (by omega), if_neg (by omega), if_neg (by omega)]; exact congrArg (fun z => Sum.inr (_, q, z)) g2
          exact ⟨by rw [e]; rfl, rfl, by rw [e]; exact ⟨(by rw [hW9 J (by omega)]; exact p5.1), hP9, hR9⟩, fun y c4 c5 c6 c7 c8 => ((congrFun (hW9 J (by omega)) y)).trans ((p5.2.2.2.2.2.1 y c4 c5 c6 c7 c8).trans (p2.2.2.2.2.2.1 y c4 c5 c6 c7 c8)), fun c hc => (hW9 c (by omega)).trans ((p5.2.2.2.2.2.2 c (by omega)).trans (p2.2.2.2.2.2.2 c (by omega)))⟩
      · refine ok_aloadn (pc' := 54) i82_53 rfl rfl <| ok_iconst (pc' := 55) i82_54 rfl <| ok_cc i82_55 rfl (cl_v o82 m3_44 na78 rfl rfl (bt rfl) (bt rfl) rfl (by rw [ShParser_k0 hSJ, o78])) ln78 (pd78 (aR J) (aI 4)) <| ok_aloadn (pc' := 1) i78_0 rfl rfl <| ok_iloadn (pc' := 2) i78_1 rfl rfl <| ok_putfj (kk := 8) (pc' := 5) i78_2 o78 pi78_147 (ShParser_k0 hSJ) rfl rfl <| ok_iconst (pc' := 6) i78_5 rfl <| ok_iretz i78_6 rt78 (by decide) <| ?_
        refine kt_v (pc' := 58) rfl <| ok_iretz i82_58 rt82 (by decide) <| ?_
        have e : rodsL by_ n q s w a = .inl (4, (stS by_ n (enS by_ n a))) := by unfold rodsL; rw [if_neg (by omega), if_neg (by omega), if_pos (by omega)]
        exact ⟨by rw [e]; rfl, rfl, by rw [e]; exact ⟨rd_eq, rd_ni (by decide) (p5.2.1), fun a h1 h2 => by rw [up2_na (by omega)]; exact (p5.2.2.2.2.2.2 a (by omega)).trans (p2.2.2.2.2.2.2 a (by omega))⟩, fun y c4 c5 c6 c7 c8 => by rw [up2_rd, if_neg (by omega)]; exact (p5.2.2.2.2.2.1 y c4 c5 c6 c7 c8).trans (p2.2.2.2.2.2.1 y c4 c5 c6 c7 c8), fun c hc => by rw [up2_na (by omega)]; exact (p5.2.2.2.2.2.2 c (by omega)).trans (p2.2.2.2.2.2.2 c (by omega))⟩
    · refine ok_iconst (pc' := 35) i82_34 rfl <| ok_iretz i82_35 rt82 (by decide) <| ?_
      have e : rodsL by_ n q s w a = .inl ((nuC by_ n 1 9 (enS by_ n a)), (stS by_ n (enS by_ n a))) := by unfold rodsL; rw [if_neg (by omega), if_pos (by omega)]
      exact ⟨by rw [e]; rfl, rfl, by rw [e]; exact ⟨p5.2.2.2.2.1 (nu_bad (by omega)), p5.2.1, fun a h1 h2 => (p5.2.2.2.2.2.2 a (by omega)).trans (p2.2.2.2.2.2.2 a (by omega))⟩, fun y c4 c5 c6 c7 c8 => (p5.2.2.2.2.2.1 y c4 c5 c6 c7 c8).trans (p2.2.2.2.2.2.1 y c4 c5 c6 c7 c8), fun c hc => (p5.2.2.2.2.2.2 c (by omega)).trans (p2.2.2.2.2.2.2 c (by omega))⟩
  · refine ok_iconst (pc' := 18) i82_17 rfl <| ok_iretz i82_18 rt82 (by decide) <| ?_
    have e : rodsL by_ n q s w a = .inl ((nuC by_ n 0 ((q 0) - 1) a), (stS by_ n a)) := by unfold rodsL; rw [if_pos (by omega)]
    exact ⟨by rw [e]; rfl, rfl, by rw [e]; exact ⟨p2.2.2.2.2.1 (nu_bad (by omega)), p2.2.1, fun a h1 h2 => p2.2.2.2.2.2.2 a (by omega)⟩, fun y c4 c5 c6 c7 c8 => p2.2.2.2.2.2.1 y c4 c5 c6 c7 c8, fun c hc => p2.2.2.2.2.2.2 c (by omega)⟩
theorem dgB_rg {by_ : Int → Int} {n a : Int} : 0 ≤ dgB by_ n a ∧ dgB by_ n a ≤ 1 := by unfold dgB; split <;> omega
theorem t84 {g : AG} {M : AM} {J Z P B : Nat} {by_ q s : Int → Int} {n a b : Int} {w : Int} (hSJ : ShParser g J Z P B) (hSZ : ShBytes g Z) (hSP : ShPlan g P) (hSB : ShState g B) (hgeo : Z < J ∧ J < P ∧ P + 11 ≤ B) (hZ : InZ M Z by_) (j3 : M J 3 = n) (hn : 0 ≤ n ∧ n ≤ 700) (ha : 0 ≤ a ∧ a ≤ n) (j4 : M J 4 = a) (hRP : RepP M P q) (hRB : RepS M B s) (hV : Val b q s) (hQ : ValQ q) (j5 : M J 5 = w) :
    Ok 4 84 0 [aR J, aU] [] g M (Rt (some (aI (lrB (ptnL by_ n q s w a)))) g (fun M9 => LPo M M9 J P B (ptnL by_ n q s w a) ∧ (∀ y : Int, y ≠ 4 → y ≠ 5 → y ≠ 6 → y ≠ 7 → y ≠ 8 → M9 J y = M J y) ∧ ∀ c, (c < J ∨ B + 24 ≤ c) → M9 c = M c)) := by
  have ys3 : 0 ≤ s 3 ∧ s 3 ≤ 80 := V_3 hV
  have ys4 : 0 ≤ s 4 ∧ s 4 ≤ 16 := V_4 hV
  have yq0 : 0 ≤ q 0 ∧ q 0 ≤ 4 := Q_0 hQ
  have yq1 : 0 ≤ q 1 ∧ q 1 ≤ 6 := Q_1 hQ
  refine ok_aloadn (pc' := 1) i84_0 rfl rfl <| ok_getfr (r := P) (pc' := 4) i84_1 o84 gr3_12 (ShParser_k0 hSJ) (ShParser_r1 hSJ) rfl <| ok_getfi (v := (q 1)) (pc' := 7) i84_4 o84 gi3_66 (ShPlan_k0 hSP) (RepP_f3 hRP) rfl <| ok_bipush (v := 6) (pc' := 9) i84_7 rfl rfl <| ?_
  refine ok_clt (pc1 := 18) (pc2 := 12) i84_9 (by omega) rfl rfl (fun h1 => ?_) (fun h1 => ?_)
  · refine ok_aloadn (pc' := 19) i84_18 rfl rfl <| ok_getfr (r := P) (pc' := 22) i84_19 o84 gr3_12 (ShParser_k0 hSJ) (ShParser_r1 hSJ) rfl <| ok_cc i84_22 rfl (cl_v o84 m3_138 na11 rfl rfl (bt rfl) (bt rfl) rfl (by rw [ShPlan_k0 hSP, o11])) ln11 (pd11 (aR P)) <| ok_aloadn (pc' := 1) i11_0 rfl rfl <| ok_getfi (v := (q 1)) (pc' := 4) i11_1 o11 gi4_30 (ShPlan_k0 hSP) (RepP_f3 hRP) rfl <| ok_bipush (v := 6) (pc' := 6) i11_4 rfl rfl <| ?_
    refine ok_cge (pc1 := 29) (pc2 := 9) i11_6 (by omega) rfl rfl (fun h9 => by exfalso; omega) (fun h2 => ?_)
    refine ok_aloadn (pc' := 10) i11_9 rfl rfl <| ok_getfr (r := (P + 3)) (pc' := 13) i11_10 o11 gr4_18 (ShPlan_k0 hSP) (ShPlan_r4 hSP) rfl <| ok_aloadn (pc' := 14) i11_13 rfl rfl <| ok_getfi (v := (q 1)) (pc' := 17) i11_14 o11 gi4_30 (ShPlan_k0 hSP) (RepP_f3 hRP) rfl <| ok_iconst (pc' := 18) i11_17 rfl <| ok_iastore (pc' := 19) i11_18 (ShPlan_k3 hSP) (ShPlan_l3 hSP) (by omega) rfl <| ok_aloadn (pc' := 20) i11_19 rfl rfl <| ok_dup (pc' := 21) i11_20 rfl rfl <| ?_
    refine ok_getfi (v := (q 1)) (pc' := 24) i11_21 o11 gi4_30 (ShPlan_k0 hSP) (rd_na (by omega) (RepP_f3 hRP)) rfl <| ok_iconst (pc' := 25) i11_24 rfl <| ok_iadd (v := ((q 1) + 1)) (pc' := 26) i11_25 rfl rfl <| ok_putfj (kk := 3) (pc' := 29) i11_26 o11 pi11_30 (ShPlan_k0 hSP) rfl rfl <| ok_vret i11_29 rt11 <| kt_0 (pc' := 25) rfl <| ok_aloadn (pc' := 26) i84_25 rfl rfl <| ok_iconst (pc' := 27) i84_26 rfl <| ?_
    refine ok_sipush (v := 200) (pc' := 30) i84_27 rfl rfl <| ?_
    obtain ⟨M8, hM8⟩ : ∃ u9 : AM, u9 = (up2 (up2 M (P + 3) (q 1) 0) P 3 ((q 1) + 1)) := ⟨_, rfl⟩
    show Ok _ _ _ _ _ _ (up2 (up2 M (P + 3) (q 1) 0) P 3 ((q 1) + 1)) _
    rw [← hM8]
    obtain ⟨q8, hq8⟩ : ∃ u9 : Int → Int, u9 = entP q := ⟨_, rfl⟩
    have hP8 : RepP M8 P q8 := by rw [hM8, hq8]; exact RepP_entP hRP (by omega) (by omega)
    have hC8 : ∀ c, (c < P ∨ P + 11 ≤ c) → M8 c = M c := fun c hc => by rw [hM8, up2_na (by omega), up2_na (by omega)]
    have hZ8 : InZ M8 Z by_ := fun i h0 h1 => by rw [hC8 Z (by omega)]; exact hZ i h0 h1
    have hS8 : RepS M8 B s := RepS.fr hRB (fun a h1 h2 => hC8 a (by omega))
    have z1 : (q8 1) = (q 1) + 1 := by rw [hq8]; exact (entP_f (by omega)).1
    have z2 : (q8 0) = (q 0) := by rw [hq8]; exact (entP_f (by omega)).2.2 0 (by decide) (by omega)
    have z3 : (q8 (10 + ((q8 1) - 1))) = 0 := by rw [hq8, (entP_f (q := q) (by omega)).1, show 10 + (q 1 + 1 - 1) = 10 + q 1 by omega]; exact (entP_f (by omega)).2.1
    refine ok_cn (pc' := 33) (d0 := 3) i84_30 rfl (cl_v o84 m3_86 na79 rfl rfl (bt rfl) (bt rfl) rfl (by rw [ShParser_k0 hSJ, o79])) ln79 (pd79 (aR J) (aI 1) (aI 200)) (by omega) (t79 (a := a) (x1 := 1) (x2 := 200) hSJ hSZ (by omega) hZ8 (by rw [hC8 J (by omega)]; exact j3) hn (by omega) (by rw [hC8 J (by omega)]; exact j4) (by omega) (by omega)) rfl (fun M3 p4 => ?_)
    have z4 : a ≤ (stS by_ n a) ∧ (stS by_ n a) ≤ n ∧ (stS by_ n a) ≤ (enS by_ n a) ∧ (enS by_ n a) ≤ n := (by have h9 := en_rg (by_ := by_) (n := n) (a := a) (by omega); exact ⟨h9.1, h9.2.1, h9.2.2.1, h9.2.2.2.1⟩)
    have z5 : 0 ≤ (nuB by_ n 1 200 a) ∧ (nuB by_ n 1 200 a) ≤ 1 := nuB_rg
    have hZM3 : InZ M3 Z by_ := fun i h0 h1 => by rw [p4.2.2.2.2.2.2 Z (by omega)]; exact hZ8 i h0 h1
    have hSM3 : RepS M3 B s := RepS.fr hS8 (fun a h1 h2 => p4.2.2.2.2.2.2 a (by omega))
    have hPM3 : RepP M3 P q8 := RepP.fr hP8 (fun a h1 h2 => p4.2.2.2.2.2.2 a (by omega))
    refine ok_zne (pc1 := 38) (pc2 := 36) i84_33 (by omega) rfl rfl (fun h5 => ?_) (fun h5 => ?_)
    · refine ok_aloadn (pc' := 39) i84_38 rfl rfl <| ok_getfr (r := P) (pc' := 42) i84_39 o84 gr3_12 (ShParser_k0 hSJ) (ShParser_r1 hSJ) rfl <| ok_aloadn (pc' := 43) i84_42 rfl rfl <| ?_
      have z6 : 1 ≤ (vaS by_ n a) ∧ (vaS by_ n a) ≤ 200 := (nu_ok (by omega)).2.2
      refine ok_getfi (v := (vaS by_ n a)) (pc' := 46) i84_43 o84 gi3_94 (ShParser_k0 hSJ) (p4.2.2.2.1 (nu_ok (by omega)).1) rfl <| ok_cc i84_46 rfl (cl_v o84 m3_141 na12 rfl rfl (bt rfl) (bt rfl) rfl (by rw [ShPlan_k0 hSP, o12])) ln12 (pd12 (aR P) (aI (vaS by_ n a))) <| ok_aloadn (pc' := 1) i12_0 rfl rfl <| ok_getfi (v := (q8 1)) (pc' := 4) i12_1 o12 gi4_30 (ShPlan_k0 hSP) (RepP_f3 hPM3) rfl <| ok_iconst (pc' := 5) i12_4 rfl <| ok_isub (v := ((q8 1) - 1)) (pc' := 6) i12_5 rfl rfl <| ok_istoren (pc' := 7) (ls' := [aR P, aI (vaS by_ n a), aI ((q8 1) - 1)]) i12_6 (bt rfl) rfl rfl <| ok_iloadn (pc' := 8) i12_7 rfl rfl <| ?_
      refine ok_zlt (pc1 := 46) (pc2 := 11) i12_8 (by omega) rfl rfl (fun h9 => by exfalso; omega) (fun h6 => ?_)
      refine ok_aloadn (pc' := 12) i12_11 rfl rfl <| ok_getfr (r := (P + 3)) (pc' := 15) i12_12 o12 gr4_18 (ShPlan_k0 hSP) (ShPlan_r4 hSP) rfl <| ok_iloadn (pc' := 16) i12_15 rfl rfl <| ok_iaload (v := (q8 (10 + ((q8 1) - 1)))) (pc' := 17) i12_16 (ShPlan_k3 hSP) (by decide) (ShPlan_l3 hSP) (by omega) (RepP_3 hPM3 (by omega) (by omega)) rfl <| ok_bipush (v := 6) (pc' := 19) i12_17 rfl rfl <| ?_
      refine ok_cge (pc1 := 46) (pc2 := 22) i12_19 (by omega) rfl rfl (fun h9 => by exfalso; omega) (fun h7 => ?_)
      refine ok_aloadn (pc' := 23) i12_22 rfl rfl <| ok_getfr (r := (P + 4)) (pc' := 26) i12_23 o12 gr4_23 (ShPlan_k0 hSP) (ShPlan_r5 hSP) rfl <| ok_iloadn (pc' := 27) i12_26 rfl rfl <| ok_aaload (r := (P + 5 + (((q8 1) - 1)).toNat)) (pc' := 28) i12_27 (ShPlan_k4 hSP) (by decide) (ShPlan_l4 hSP) (by omega) (ShPlan_ev4 hSP (by omega) (by omega)) rfl <| ok_aloadn (pc' := 29) i12_28 rfl rfl <| ok_getfr (r := (P + 3)) (pc' := 32) i12_29 o12 gr4_18 (ShPlan_k0 hSP) (ShPlan_r4 hSP) rfl <| ok_iloadn (pc' := 33) i12_32 rfl rfl <| ok_iaload (v := (q8 (10 + ((q8 1) - 1)))) (pc' := 34) i12_33 (ShPlan_k3 hSP) (by decide) (ShPlan_l3 hSP) (by omega) (RepP_3 hPM3 (by omega) (by omega)) rfl <| ?_
      refine ok_iloadn (pc' := 35) i12_34 rfl rfl <| ok_iastore (pc' := 36) i12_35 (ShPlan_kv4 hSP (by omega) (by omega)) (ShPlan_lv4 hSP (by omega) (by omega)) (by omega) rfl <| ok_aloadn (pc' := 37) i12_36 rfl rfl <| ok_getfr (r := (P + 3)) (pc' := 40) i12_37 o12 gr4_18 (ShPlan_k0 hSP) (ShPlan_r4 hSP) rfl <| ok_iloadn (pc' := 41) i12_40 rfl rfl <| ok_dup2 (pc' := 42) i12_41 ⟨rfl, rfl⟩ rfl <| ok_iaload (v := (q8 (10 + ((q8 1) - 1)))) (pc' := 43) i12_42 (ShPlan_k3 hSP) (by decide) (ShPlan_l3 hSP) (by omega) (rd_na (by omega) (RepP_3 hPM3 (by omega) (by omega))) rfl <| ok_iconst (pc' := 44) i12_43 rfl <| ?_
      refine ok_iadd (v := ((q8 (10 + ((q8 1) - 1))) + 1)) (pc' := 45) i12_44 rfl rfl <| ok_iastore (pc' := 46) i12_45 (ShPlan_k3 hSP) (ShPlan_l3 hSP) (by omega) rfl <| ok_vret i12_46 rt12 <| kt_0 (pc' := 49) rfl <| ok_iconst (pc' := 50) i84_49 rfl <| ok_istoren (pc' := 51) (ls' := [aR J, aI 1]) i84_50 (bt rfl) rfl rfl <| ?_
      have hv := (nu_ok (by_ := by_) (n := n) (lo := 1) (hi := 200) (a := a) (by omega)).2.2
      have hf := VQ_first (l := vaS by_ n a) hQ (by omega) hv
      rw [← hq8] at hf
      refine ok_while (σ := Int × Int × (Int → Int)) (fun x ls M9 => (1 ≤ x.1 ∧ x.1 ≤ 6) ∧ (0 ≤ x.2.1 ∧ x.2.1 ≤ n) ∧ M9 J 4 = x.2.1 ∧ M9 J 3 = n ∧ RepP M9 P x.2.2 ∧ ValQ x.2.2 ∧ (1 ≤ x.2.2 1 ∧ x.2.2 (10 + (x.2.2 1 - 1)) = x.1) ∧ (∀ y : Int, y ≠ 4 → y ≠ 5 → y ≠ 6 → y ≠ 7 → y ≠ 8 → M9 J y = M J y) ∧ (∀ c, (c < J ∨ P + 11 ≤ c) → M9 c = M c) ∧ ptnN by_ n s (6 - x.1).toNat x.2.1 x.2.2 = ptnL by_ n q s w a ∧ ls = [aR J, aI x.1]) (fun x => (6 - x.1).toNat) ?_ (1, enS by_ n a, extP q8 (vaS by_ n a)) _ _ ⟨by dsimp only; omega, by dsimp only; omega, ?_, ?_, ?_, hf.1, ⟨by dsimp only; omega, by dsimp only; rw [hf.2.1]; exact hf.2.2⟩, fun y c4 c5 c6 c7 c8 => by rw [up2_na (by omega), up2_na (by omega)]; exact (p4.2.2.2.2.2.1 y c4 c5 c6 c7 c8).trans ((congrFun (hC8 J (by omega)) y)), fun c hc => by rw [up2_na (by omega), up2_na (by omega)]; exact (p4.2.2.2.2.2.2 c (by omega)).trans (hC8 c (by omega)), ?_, rfl⟩
      · rintro ⟨i, ap, qp⟩ ls M9 ⟨hi, hap, h94, h93, hP9, hQ9, ⟨hq1, hq2⟩, hY9, hC9, hR, rfl⟩ ih
        dsimp only at *
        have yp0 := Q_0 hQ9
        have yp1 := Q_1 hQ9
        have hZ9 : InZ M9 Z by_ := fun i h0 h1 => by rw [hC9 Z (by omega)]; exact hZ i h0 h1
        have hR9 : RepS M9 B s := RepS.fr hRB (fun a h1 h2 => hC9 a (by omega))
        refine ok_iloadn (pc' := 52) i84_51 rfl rfl <| ok_bipush (v := 6) (pc' := 54) i84_52 rfl rfl <| ?_
        refine ok_cgt (pc1 := 106) (pc2 := 57) i84_54 (by omega) rfl rfl (fun h9 => by exfalso; omega) (fun h1 => ?_)
        refine ok_aloadn (pc' := 58) i84_57 rfl rfl <| ?_
        refine ok_cn (pc' := 61) (d0 := 1) i84_58 rfl (cl_v o84 m3_144 na85 rfl rfl (bt rfl) (bt rfl) rfl (by rw [ShParser_k0 hSJ, o85])) ln85 (pd85 (aR J)) (by omega) (t85 (a := ap) hSJ hSZ (by omega) hZ9 h93 hn (by omega) h94) rfl (fun M2 p3 => ?_)
        have z61 : ap ≤ (stS by_ n ap) ∧ (stS by_ n ap) ≤ n := (by have h9 := en_rg (by_ := by_) (n := n) (a := ap) (by omega); exact ⟨h9.1, h9.2.1⟩)
        have z62 : 0 ≤ (dgB by_ n ap) ∧ (dgB by_ n ap) ≤ 1 := dgB_rg
        have hZM2 : InZ M2 Z by_ := fun i h0 h1 => by rw [(fun c (hc : c ≠ J) => show M2 c = M9 c by rw [p3, up2_na hc]) Z (by omega)]; exact hZ9 i h0 h1
        have hPM2 : RepP M2 P qp := RepP.fr hP9 (fun a h1 h2 => (fun c (hc : c ≠ J) => show M2 c = M9 c by rw [p3, up2_na hc]) a (by omega))
        have hSM2 : RepS M2 B s := RepS.fr hR9 (fun a h1 h2 => (fun c (hc : c ≠ J) => show M2 c = M9 c by rw [p3, up2_na hc]) a (by omega))
        refine ok_zeq (pc1 := 106) (pc2 := 64) i84_61 (by omega) rfl rfl (fun h4 => ?_) (fun h4 => ?_)
        · refine ok_iconst (pc' := 107) i84_106 rfl <| ok_iretz i84_107 rt84 (by decide) <| ?_
          have e : ptnL by_ n q s w a = .inr (stS by_ n ap, qp, s) := by rw [← hR]; cases (6 - i).toNat <;> rw [ptnN, if_pos (by omega)]
          exact ⟨by rw [e]; rfl, rfl, by rw [e]; exact ⟨(by rw [p3]; exact rd_eq), hPM2, hSM2⟩, fun y c4 c5 c6 c7 c8 => ((show M2 J y = M9 J y by rw [p3, up2_rd, if_neg (by omega)])).trans (hY9 y c4 c5 c6 c7 c8), fun c hc => ((fun c (hc : c ≠ J) => show M2 c = M9 c by rw [p3, up2_na hc]) c (by omega)).trans (hC9 c (by omega))⟩
        · refine ok_aloadn (pc' := 65) i84_64 rfl rfl <| ok_iconst (pc' := 66) i84_65 rfl <| ok_sipush (v := 200) (pc' := 69) i84_66 rfl rfl <| ?_
          refine ok_cn (pc' := 72) (d0 := 3) i84_69 rfl (cl_v o84 m3_86 na79 rfl rfl (bt rfl) (bt rfl) rfl (by rw [ShParser_k0 hSJ, o79])) ln79 (pd79 (aR J) (aI 1) (aI 200)) (by omega) (t79 (a := (stS by_ n ap)) (x1 := 1) (x2 := 200) hSJ hSZ (by omega) hZM2 (by rw [p3]; exact rd_ni (by decide) h93) hn (by omega) (by rw [p3]; exact rd_eq) (by omega) (by omega)) rfl (fun M5 p6 => ?_)
          have z63 : (stS by_ n ap) ≤ (stS by_ n (stS by_ n ap)) ∧ (stS by_ n (stS by_ n ap)) ≤ n ∧ (stS by_ n (stS by_ n ap)) ≤ (enS by_ n (stS by_ n ap)) ∧ (enS by_ n (stS by_ n ap)) ≤ n := (by have h9 := en_rg (by_ := by_) (n := n) (a := (stS by_ n ap)) (by omega); exact ⟨h9.1, h9.2.1, h9.2.2.1, h9.2.2.2.1⟩)
          have z64 : 0 ≤ (nuB by_ n 1 200 (stS by_ n ap)) ∧ (nuB by_ n 1 200 (stS by_ n ap)) ≤ 1 := nuB_rg
          have hZM5 : InZ M5 Z by_ := fun i h0 h1 => by rw [p6.2.2.2.2.2.2 Z (by omega)]; exact hZM2 i h0 h1
          have hPM5 : RepP M5 P qp := RepP.fr hPM2 (fun a h1 h2 => p6.2.2.2.2.2.2 a (by omega))
          have hSM5 : RepS M5 B s := RepS.fr hSM2 (fun a h1 h2 => p6.2.2.2.2.2.2 a (by omega))
          refine ok_zne (pc1 := 77) (pc2 := 75) i84_72 (by omega) rfl rfl (fun h7 => ?_) (fun h7 => ?_)
          · refine ok_iloadn (pc' := 78) i84_77 rfl rfl <| ok_bipush (v := 6) (pc' := 80) i84_78 rfl rfl <| ?_
            refine ok_cne (pc1 := 89) (pc2 := 83) i84_80 (by omega) rfl rfl (fun h8 => ?_) (fun h8 => ?_)
            · refine ok_aloadn (pc' := 90) i84_89 rfl rfl <| ok_getfr (r := P) (pc' := 93) i84_90 o84 gr3_12 (ShParser_k0 hSJ) (ShParser_r1 hSJ) rfl <| ok_aloadn (pc' := 94) i84_93 rfl rfl <| ?_
              have z65 : 1 ≤ (vaS by_ n (stS by_ n ap)) ∧ (vaS by_ n (stS by_ n ap)) ≤ 200 := (nu_ok (by omega)).2.2
              refine ok_getfi (v := (vaS by_ n (stS by_ n ap))) (pc' := 97) i84_94 o84 gi3_94 (ShParser_k0 hSJ) (p6.2.2.2.1 (nu_ok (by omega)).1) rfl <| ok_cc i84_97 rfl (cl_v o84 m3_141 na12 rfl rfl (bt rfl) (bt rfl) rfl (by rw [ShPlan_k0 hSP, o12])) ln12 (pd12 (aR P) (aI (vaS by_ n (stS by_ n ap)))) <| ok_aloadn (pc' := 1) i12_0 rfl rfl <| ok_getfi (v := (qp 1)) (pc' := 4) i12_1 o12 gi4_30 (ShPlan_k0 hSP) (RepP_f3 hPM5) rfl <| ok_iconst (pc' := 5) i12_4 rfl <| ok_isub (v := ((qp 1) - 1)) (pc' := 6) i12_5 rfl rfl <| ok_istoren (pc' := 7) (ls' := [aR P, aI (vaS by_ n (stS by_ n ap)), aI ((qp 1) - 1)]) i12_6 (bt rfl) rfl rfl <| ok_iloadn (pc' := 8) i12_7 rfl rfl <| ?_
              refine ok_zlt (pc1 := 46) (pc2 := 11) i12_8 (by omega) rfl rfl (fun h9 => by exfalso; omega) (fun h9 => ?_)
              refine ok_aloadn (pc' := 12) i12_11 rfl rfl <| ok_getfr (r := (P + 3)) (pc' := 15) i12_12 o12 gr4_18 (ShPlan_k0 hSP) (ShPlan_r4 hSP) rfl <| ok_iloadn (pc' := 16) i12_15 rfl rfl <| ok_iaload (v := (qp (10 + ((qp 1) - 1)))) (pc' := 17) i12_16 (ShPlan_k3 hSP) (by decide) (ShPlan_l3 hSP) (by omega) (RepP_3 hPM5 (by omega) (by omega)) rfl <| ok_bipush (v := 6) (pc' := 19) i12_17 rfl rfl <| ?_
              refine ok_cge (pc1 := 46) (pc2 := 22) i12_19 (by omega) rfl rfl (fun h9 => by exfalso; omega) (fun h10 => ?_)
              refine ok_aloadn (pc' := 23) i12_22 rfl rfl <| ok_getfr (r := (P + 4)) (pc' := 26) i12_23 o12 gr4_23 (ShPlan_k0 hSP) (ShPlan_r5 hSP) rfl <| ok_iloadn (pc' := 27) i12_26 rfl rfl <| ok_aaload (r := (P + 5 + (((qp 1) - 1)).toNat)) (pc' := 28) i12_27 (ShPlan_k4 hSP) (by decide) (ShPlan_l4 hSP) (by omega) (ShPlan_ev4 hSP (by omega) (by omega)) rfl <| ok_aloadn (pc' := 29) i12_28 rfl rfl <| ok_getfr (r := (P + 3)) (pc' := 32) i12_29 o12 gr4_18 (ShPlan_k0 hSP) (ShPlan_r4 hSP) rfl <| ok_iloadn (pc' := 33) i12_32 rfl rfl <| ok_iaload (v := (qp (10 + ((qp 1) - 1)))) (pc' := 34) i12_33 (ShPlan_k3 hSP) (by decide) (ShPlan_l3 hSP) (by omega) (RepP_3 hPM5 (by omega) (by omega)) rfl <| ?_
              refine ok_iloadn (pc' := 35) i12_34 rfl rfl <| ok_iastore (pc' := 36) i12_35 (ShPlan_kv4 hSP (by omega) (by omega)) (ShPlan_lv4 hSP (by omega) (by omega)) (by omega) rfl <| ok_aloadn (pc' := 37) i12_36 rfl rfl <| ok_getfr (r := (P + 3)) (pc' := 40) i12_37 o12 gr4_18 (ShPlan_k0 hSP) (ShPlan_r4 hSP) rfl <| ok_iloadn (pc' := 41) i12_40 rfl rfl <| ok_dup2 (pc' := 42) i12_41 ⟨rfl, rfl⟩ rfl <| ok_iaload (v := (qp (10 + ((qp 1) - 1)))) (pc' := 43) i12_42 (ShPlan_k3 hSP) (by decide) (ShPlan_l3 hSP) (by omega) (rd_na (by omega) (RepP_3 hPM5 (by omega) (by omega))) rfl <| ok_iconst (pc' := 44) i12_43 rfl <| ?_
              refine ok_iadd (v := ((qp (10 + ((qp 1) - 1))) + 1)) (pc' := 45) i12_44 rfl rfl <| ok_iastore (pc' := 46) i12_45 (ShPlan_k3 hSP) (ShPlan_l3 hSP) (by omega) rfl <| ok_vret i12_46 rt12 <| kt_0 (pc' := 100) rfl <| ok_iinc (pc' := 103) (v := (i + 1)) (ls' := [aR J, aI (i + 1)]) i84_100 rfl rfl rfl rfl <| ok_goto (pc' := 51) i84_103 rfl <| ?_
              have hv := (nu_ok (by_ := by_) (n := n) (lo := 1) (hi := 200) (a := stS by_ n ap) (by omega)).2.2
              have hx := extP_1 (q := qp) (l := vaS by_ n (stS by_ n ap)) (by omega) (by omega)
              refine ih (i + 1, enS by_ n (stS by_ n ap), extP qp (vaS by_ n (stS by_ n ap))) _ _ (by dsimp only; omega) ⟨by dsimp only; omega, by dsimp only; omega, ?_, ?_, ?_, VQ_ext hQ9 (by omega) (by omega) hv, ⟨by dsimp only; omega, by dsimp only; rw [hx.1, hx.2.2]; omega⟩, fun y c4 c5 c6 c7 c8 => by rw [up2_na (by omega), up2_na (by omega)]; exact (p6.2.2.2.2.2.1 y c4 c5 c6 c7 c8).trans (((show M2 J y = M9 J y by rw [p3, up2_rd, if_neg (by omega)])).trans (hY9 y c4 c5 c6 c7 c8)), fun c hc => by rw [up2_na (by omega), up2_na (by omega)]; exact (p6.2.2.2.2.2.2 c (by omega)).trans (((fun c (hc : c ≠ J) => show M2 c = M9 c by rw [p3, up2_na hc]) c (by omega)).trans (hC9 c (by omega))), ?_, rfl⟩
              · rw [up2_na (by omega), up2_na (by omega)]; exact p6.1
              · rw [up2_na (by omega), up2_na (by omega)]; exact ((p6.2.2.2.2.2.1 3 (by decide) (by decide) (by decide) (by decide) (by decide)).trans (by rw [p3]; exact rd_ni (by decide) h93))
              · exact RepP_extP hPM5 (by omega) rfl (by omega) rfl (by omega) (fun w h0 h1 => (Q_10 hQ9 h0 (by omega)).2) rfl
              · rw [← hR]; dsimp only; rw [show (6 - i).toNat = (6 - (i + 1)).toNat + 1 by omega, ptnN, if_neg (by omega), if_neg (by omega)]
            · refine ok_aloadn (pc' := 84) i84_83 rfl rfl <| ok_iconst (pc' := 85) i84_84 rfl <| ok_cc i84_85 rfl (cl_v o84 m3_44 na78 rfl rfl (bt rfl) (bt rfl) rfl (by rw [ShParser_k0 hSJ, o78])) ln78 (pd78 (aR J) (aI 4)) <| ok_aloadn (pc' := 1) i78_0 rfl rfl <| ok_iloadn (pc' := 2) i78_1 rfl rfl <| ok_putfj (kk := 8) (pc' := 5) i78_2 o78 pi78_147 (ShParser_k0 hSJ) rfl rfl <| ok_iconst (pc' := 6) i78_5 rfl <| ok_iretz i78_6 rt78 (by decide) <| ?_
              refine kt_v (pc' := 88) rfl <| ok_iretz i84_88 rt84 (by decide) <| ?_
              have e : ptnL by_ n q s w a = .inl (4, (stS by_ n (stS by_ n ap))) := by rw [← hR, show (6 - i).toNat = 0 by omega, ptnN, if_neg (by omega), if_neg (by omega)]
              exact ⟨by rw [e]; rfl, rfl, by rw [e]; exact ⟨rd_eq, rd_ni (by decide) (p6.2.1), fun a h1 h2 => by rw [up2_na (by omega)]; exact (p6.2.2.2.2.2.2 a (by omega)).trans (((fun c (hc : c ≠ J) => show M2 c = M9 c by rw [p3, up2_na hc]) a (by omega)).trans (hC9 a (by omega)))⟩, fun y c4 c5 c6 c7 c8 => by rw [up2_rd, if_neg (by omega)]; exact (p6.2.2.2.2.2.1 y c4 c5 c6 c7 c8).trans (((show M2 J y = M9 J y by rw [p3, up2_rd, if_neg (by omega)])).trans (hY9 y c4 c5 c6 c7 c8)), fun c hc => by rw [up2_na (by omega)]; exact (p6.2.2.2.2.2.2 c (by omega)).trans (((fun c (hc : c ≠ J) => show M2 c = M9 c by rw [p3, up2_na hc]) c (by omega)).trans (hC9 c (by omega)))⟩
          · refine ok_iconst (pc' := 76) i84_75 rfl <| ok_iretz i84_76 rt84 (by decide) <| ?_
            have e : ptnL by_ n q s w a = .inl ((nuC by_ n 1 200 (stS by_ n ap)), (stS by_ n (stS by_ n ap))) := by rw [← hR]; cases (6 - i).toNat <;> rw [ptnN, if_neg (by omega), if_pos (by omega)]
            exact ⟨by rw [e]; rfl, rfl, by rw [e]; exact ⟨p6.2.2.2.2.1 (nu_bad (by omega)), p6.2.1, fun a h1 h2 => (p6.2.2.2.2.2.2 a (by omega)).trans (((fun c (hc : c ≠ J) => show M2 c = M9 c by rw [p3, up2_na hc]) a (by omega)).trans (hC9 a (by omega)))⟩, fun y c4 c5 c6 c7 c8 => (p6.2.2.2.2.2.1 y c4 c5 c6 c7 c8).trans (((show M2 J y = M9 J y by rw [p3, up2_rd, if_neg (by omega)])).trans (hY9 y c4 c5 c6 c7 c8)), fun c hc => (p6.2.2.2.2.2.2 c (by omega)).trans (((fun c (hc : c ≠ J) => show M2 c = M9 c by rw [p3, up2_na hc]) c (by omega)).trans (hC9 c (by omega)))⟩
      · rw [up2_na (by omega), up2_na (by omega)]; exact p4.1
      · rw [up2_na (by omega), up2_na (by omega)]; exact ((p4.2.2.2.2.2.1 3 (by decide) (by decide) (by decide) (by decide) (by decide)).trans (by rw [hC8 J (by omega)]; exact j3))
      · exact RepP_extP hPM3 (by omega) rfl (by omega) rfl (by omega) (fun w h0 h1 => by rw [hq8, (entP_f (q := q) (by omega)).2.2 _ (by omega) (by omega)]; exact (Q_10 hQ h0 (by omega)).2) rfl
      · rw [hq8]; unfold ptnL; rw [if_neg (by omega), if_neg (by omega)]; rfl
    · refine ok_iconst (pc' := 37) i84_36 rfl <| ok_iretz i84_37 rt84 (by decide) <| ?_
      have e : ptnL by_ n q s w a = .inl ((nuC by_ n 1 200 a), (stS by_ n a)) := by unfold ptnL; rw [if_neg (by omega), if_pos (by omega)]
      exact ⟨by rw [e]; rfl, rfl, by rw [e]; exact ⟨p4.2.2.2.2.1 (nu_bad (by omega)), p4.2.1, fun a h1 h2 => (p4.2.2.2.2.2.2 a (by omega)).trans (hC8 a (by omega))⟩, fun y c4 c5 c6 c7 c8 => (p4.2.2.2.2.2.1 y c4 c5 c6 c7 c8).trans ((congrFun (hC8 J (by omega)) y)), fun c hc => (p4.2.2.2.2.2.2 c (by omega)).trans (hC8 c (by omega))⟩
  · refine ok_aloadn (pc' := 13) i84_12 rfl rfl <| ok_iconst (pc' := 14) i84_13 rfl <| ok_cc i84_14 rfl (cl_v o84 m3_44 na78 rfl rfl (bt rfl) (bt rfl) rfl (by rw [ShParser_k0 hSJ, o78])) ln78 (pd78 (aR J) (aI 4)) <| ok_aloadn (pc' := 1) i78_0 rfl rfl <| ok_iloadn (pc' := 2) i78_1 rfl rfl <| ok_putfj (kk := 8) (pc' := 5) i78_2 o78 pi78_147 (ShParser_k0 hSJ) rfl rfl <| ok_iconst (pc' := 6) i78_5 rfl <| ok_iretz i78_6 rt78 (by decide) <| ?_
    refine kt_v (pc' := 17) rfl <| ok_iretz i84_17 rt84 (by decide) <| ?_
    have e : ptnL by_ n q s w a = .inl (4, w) := by unfold ptnL; rw [if_pos (by omega)]
    exact ⟨by rw [e]; rfl, rfl, by rw [e]; exact ⟨rd_eq, rd_ni (by decide) (j5), fun a h1 h2 => by rw [up2_na (by omega)]⟩, fun y c4 c5 c6 c7 c8 => by rw [up2_rd, if_neg (by omega)], fun c hc => by rw [up2_na (by omega)]⟩

