/-! THE LAW'S QUESTIONS (by program, wip/p60/gen) -/
theorem o202 : am_oc 202 = 17 := by decide +kernel
theorem gi17_100 : am_gfi 17 100 17 11 = true := by decide +kernel
theorem gr17_40 : am_gfr 17 40 17 5 = true := by decide +kernel
theorem gi17_148 : am_gfi 17 148 15 1 = true := by decide +kernel
theorem gi17_127 : am_gfi 17 127 15 5 = true := by decide +kernel
theorem rt202 : am_rt 202 = some .int := by decide +kernel
theorem o208 : am_oc 208 = 17 := by decide +kernel
theorem rt208 : am_rt 208 = some .int := by decide +kernel
theorem o205 : am_oc 205 = 17 := by decide +kernel
theorem rt205 : am_rt 205 = some (.object "RodYardLaw$Order") := by decide +kernel
theorem gi17_136 : am_gfi 17 136 15 4 = true := by decide +kernel
theorem o200 : am_oc 200 = 17 := by decide +kernel
theorem gi17_160 : am_gfi 17 160 16 3 = true := by decide +kernel
theorem gi17_56 : am_gfi 17 56 17 14 = true := by decide +kernel
theorem m17_179 : am_mlk 17 179 6 0 = true := by decide +kernel
theorem rt200 : am_rt 200 = some .int := by decide +kernel
theorem gi17_154 : am_gfi 17 154 16 2 = true := by decide +kernel
theorem o199 : am_oc 199 = 17 := by decide +kernel
theorem gi17_97 : am_gfi 17 97 17 10 = true := by decide +kernel
theorem rt199 : am_rt 199 = some (.object "RodYardLaw$Rod") := by decide +kernel
theorem gr17_34 : am_gfr 17 34 17 4 = true := by decide +kernel
theorem m17_186 : am_mlk 17 186 0 200 = true := by decide +kernel
theorem na200 : am_na 200 = 2 := by decide +kernel
theorem nl200 : am_nL 200 = 8 := by decide +kernel
theorem pd200 : ∀ a0 a1 a2 : AV, am_pad 200 [a0, a1, a2] = [a0, a1, a2, aU, aU, aU, aU, aU] := by intros; unfold am_pad; rw [nl200]; rfl
theorem ln200 : 3 ≤ am_nL 200 := by rw [nl200]; decide
theorem t202 {g : AG} {M : AM} {O : Nat} {A : YA} {s q : Int → Int} {b : Int} {x1 : Int} (hY : Yd g M O A s q) (hV : Val b q s) (hx : 0 ≤ x1 ∧ x1 ≤ 1000) : Ok 0 202 0 [aR 101, aI x1, aU, aU] [] g M (Rt (some (aI (r22 s x1))) g (fun M9 => M9 = M)) := by
  have hQ := V_q hV
  have y3 := V_3 hV
  have y4 := V_4 hV
  have y5 := V_5 hV
  have yq0 := Q_0 hQ
  have yq1 := Q_1 hQ
  refine ok_iconst (pc' := 1) i202_0 rfl <| ok_istoren (pc' := 2) (ls' := [aR 101, aI x1, aI 0, aU]) i202_1 (bt rfl) rfl rfl <| ok_iconst (pc' := 3) i202_2 rfl <| ok_istoren (pc' := 4) (ls' := [aR 101, aI x1, aI 0, aI 0]) i202_3 (bt rfl) rfl rfl <| ?_
  refine ok_for (lo := 0) (n := (s 4).toNat) (f := (f22 s x1)) (a0 := 0) (fun i a ls M9 => M9 = M ∧ (0 ≤ a ∧ a ≤ 9 * i) ∧ ls = [aR 101, aI x1, aI a, aI i]) ?_ ?_ _ _ ⟨rfl, by omega, rfl⟩
  · rintro i a ls M9 g1 g2 ⟨rfl, hinv, rfl⟩ ih
    have g3 : i < s 4 := by omega
    refine ok_iloadn (pc' := 5) i202_4 rfl rfl <| ok_aloadn (pc' := 6) i202_5 rfl rfl <| ok_getfi (v := (s 4)) (pc' := 9) i202_6 o202 gi17_100 (hY.gr.ky) ((Yd.n4 hY)) rfl <| ?_
    refine ok_cge (pc1 := 47) (pc2 := 12) i202_9 (by omega) rfl rfl (fun h9 => by exfalso; omega) (fun h1 => ?_)
    refine ok_iloadn (pc' := 13) i202_12 rfl rfl <| ok_aloadn (pc' := 14) i202_13 rfl rfl <| ok_getfr (r := 108) (pc' := 17) i202_14 o202 gr17_40 (hY.gr.ky) (hY.gr.r5) rfl <| ok_iloadn (pc' := 18) i202_17 rfl rfl <| ok_aaload (r := (A.D i)) (pc' := 19) i202_18 (hY.gr.k8) (by decide) (hY.gr.l8) (by omega) ((hY.gr.dd i (by omega) (by omega)).1) rfl <| ?_
    have z2 : 1 ≤ s (414 + (8 * i)) ∧ s (414 + (8 * i)) ≤ 200 := V_o0 hV (by omega) (by omega)
    refine ok_getfi (v := (s (414 + (8 * i)))) (pc' := 22) i202_19 o202 gi17_148 ((hY.gr.dd i (by omega) (by omega)).2.2) ((Yd.d1 hY (k := i) (by omega) (by omega))) rfl <| ok_iloadn (pc' := 23) i202_22 rfl rfl <| ?_
    refine ok_cne (pc1 := 38) (pc2 := 26) i202_23 (by omega) rfl rfl (fun h3 => ?_) (fun h3 => ?_)
    · refine ok_iconst (pc' := 39) i202_38 rfl <| ok_iadd (v := (a + 0)) (pc' := 40) i202_39 rfl rfl <| ok_istoren (pc' := 41) (ls' := [aR 101, aI x1, aI (a + 0), aI i]) i202_40 (bt rfl) rfl rfl <| ok_iinc (pc' := 44) (v := (i + 1)) (ls' := [aR 101, aI x1, aI (a + 0), aI (i + 1)]) i202_41 rfl rfl rfl rfl <| ok_goto (pc' := 4) i202_44 rfl <| ?_
      have e : (f22 s x1) i a = (a + 0) := by unfold f22; split <;> omega
      exact ih _ _ ⟨rfl, by rw [e]; omega, by rw [e]⟩
    · refine ok_aloadn (pc' := 27) i202_26 rfl rfl <| ok_getfr (r := 108) (pc' := 30) i202_27 o202 gr17_40 (hY.gr.ky) (hY.gr.r5) rfl <| ok_iloadn (pc' := 31) i202_30 rfl rfl <| ok_aaload (r := (A.D i)) (pc' := 32) i202_31 (hY.gr.k8) (by decide) (hY.gr.l8) (by omega) ((hY.gr.dd i (by omega) (by omega)).1) rfl <| ?_
      have z4 : 0 ≤ s ((414 + (8 * i)) + 4) ∧ s ((414 + (8 * i)) + 4) ≤ 9 := V_o4 hV (by omega) (by omega)
      refine ok_getfi (v := (s ((414 + (8 * i)) + 4))) (pc' := 35) i202_32 o202 gi17_127 ((hY.gr.dd i (by omega) (by omega)).2.2) ((Yd.d5 hY (k := i) (by omega) (by omega))) rfl <| ok_goto (pc' := 39) i202_35 rfl <| ok_iadd (v := (a + (s ((414 + (8 * i)) + 4)))) (pc' := 40) i202_39 rfl rfl <| ok_istoren (pc' := 41) (ls' := [aR 101, aI x1, aI (a + (s ((414 + (8 * i)) + 4))), aI i]) i202_40 (bt rfl) rfl rfl <| ok_iinc (pc' := 44) (v := (i + 1)) (ls' := [aR 101, aI x1, aI (a + (s ((414 + (8 * i)) + 4))), aI (i + 1)]) i202_41 rfl rfl rfl rfl <| ok_goto (pc' := 4) i202_44 rfl <| ?_
      have e : (f22 s x1) i a = (a + (s ((414 + (8 * i)) + 4))) := by unfold f22; split <;> omega
      exact ih _ _ ⟨rfl, by rw [e]; omega, by rw [e]⟩
  · rintro i a ls M9 g1 g2 ⟨rfl, hinv, rfl⟩
    have g3 : i = s 4 := by omega
    refine ok_iloadn (pc' := 5) i202_4 rfl rfl <| ok_aloadn (pc' := 6) i202_5 rfl rfl <| ok_getfi (v := (s 4)) (pc' := 9) i202_6 o202 gi17_100 (hY.gr.ky) ((Yd.n4 hY)) rfl <| ?_
    refine ok_cge (pc1 := 47) (pc2 := 12) i202_9 (by omega) rfl rfl (fun h1 => ?_) (fun h9 => by exfalso; omega)
    refine ok_iloadn (pc' := 48) i202_47 rfl rfl <| ok_ireti i202_48 rt202 <| ?_
    have e2 : (r22 s x1) = a := by unfold r22 k22; rw [g2]
    exact ⟨by rw [e2], rfl, rfl⟩
theorem t208 {g : AG} {M : AM} {O : Nat} {A : YA} {s q : Int → Int} {b : Int} (hY : Yd g M O A s q) (hV : Val b q s) : Ok 0 208 0 [aR 101, aU, aU] [] g M (Rt (some (aI (r20 s))) g (fun M9 => M9 = M)) := by
  have hQ := V_q hV
  have y3 := V_3 hV
  have y4 := V_4 hV
  have y5 := V_5 hV
  have yq0 := Q_0 hQ
  have yq1 := Q_1 hQ
  refine ok_iconst (pc' := 1) i208_0 rfl <| ok_istoren (pc' := 2) (ls' := [aR 101, aI 0, aU]) i208_1 (bt rfl) rfl rfl <| ok_iconst (pc' := 3) i208_2 rfl <| ok_istoren (pc' := 4) (ls' := [aR 101, aI 0, aI 0]) i208_3 (bt rfl) rfl rfl <| ?_
  refine ok_for (lo := 0) (n := (s 4).toNat) (f := (f20 s)) (a0 := 0) (fun i a ls M9 => M9 = M ∧ (0 ≤ a ∧ a ≤ 9 * i) ∧ ls = [aR 101, aI a, aI i]) ?_ ?_ _ _ ⟨rfl, by omega, rfl⟩
  · rintro i a ls M9 g1 g2 ⟨rfl, hinv, rfl⟩ ih
    have g3 : i < s 4 := by omega
    refine ok_iloadn (pc' := 5) i208_4 rfl rfl <| ok_aloadn (pc' := 6) i208_5 rfl rfl <| ok_getfi (v := (s 4)) (pc' := 9) i208_6 o208 gi17_100 (hY.gr.ky) ((Yd.n4 hY)) rfl <| ?_
    refine ok_cge (pc1 := 30) (pc2 := 12) i208_9 (by omega) rfl rfl (fun h9 => by exfalso; omega) (fun h1 => ?_)
    refine ok_iloadn (pc' := 13) i208_12 rfl rfl <| ok_aloadn (pc' := 14) i208_13 rfl rfl <| ok_getfr (r := 108) (pc' := 17) i208_14 o208 gr17_40 (hY.gr.ky) (hY.gr.r5) rfl <| ok_iloadn (pc' := 18) i208_17 rfl rfl <| ok_aaload (r := (A.D i)) (pc' := 19) i208_18 (hY.gr.k8) (by decide) (hY.gr.l8) (by omega) ((hY.gr.dd i (by omega) (by omega)).1) rfl <| ?_
    have z2 : 0 ≤ s ((414 + (8 * i)) + 4) ∧ s ((414 + (8 * i)) + 4) ≤ 9 := V_o4 hV (by omega) (by omega)
    refine ok_getfi (v := (s ((414 + (8 * i)) + 4))) (pc' := 22) i208_19 o208 gi17_127 ((hY.gr.dd i (by omega) (by omega)).2.2) ((Yd.d5 hY (k := i) (by omega) (by omega))) rfl <| ok_iadd (v := (a + (s ((414 + (8 * i)) + 4)))) (pc' := 23) i208_22 rfl rfl <| ok_istoren (pc' := 24) (ls' := [aR 101, aI (a + (s ((414 + (8 * i)) + 4))), aI i]) i208_23 (bt rfl) rfl rfl <| ok_iinc (pc' := 27) (v := (i + 1)) (ls' := [aR 101, aI (a + (s ((414 + (8 * i)) + 4))), aI (i + 1)]) i208_24 rfl rfl rfl rfl <| ok_goto (pc' := 4) i208_27 rfl <| ?_
    have e : (f20 s) i a = (a + (s ((414 + (8 * i)) + 4))) := rfl
    exact ih _ _ ⟨rfl, by rw [e]; omega, by rw [e]⟩
  · rintro i a ls M9 g1 g2 ⟨rfl, hinv, rfl⟩
    have g3 : i = s 4 := by omega
    refine ok_iloadn (pc' := 5) i208_4 rfl rfl <| ok_aloadn (pc' := 6) i208_5 rfl rfl <| ok_getfi (v := (s 4)) (pc' := 9) i208_6 o208 gi17_100 (hY.gr.ky) ((Yd.n4 hY)) rfl <| ?_
    refine ok_cge (pc1 := 30) (pc2 := 12) i208_9 (by omega) rfl rfl (fun h1 => ?_) (fun h9 => by exfalso; omega)
    refine ok_iloadn (pc' := 31) i208_30 rfl rfl <| ok_ireti i208_31 rt208 <| ?_
    have e2 : (r20 s) = a := by unfold r20 k20; rw [g2]
    exact ⟨by rw [e2], rfl, rfl⟩
def foP (s : Int → Int) (x : Int) (o : Int) : Prop := 0 < s ((414 + (8 * o)) + 4) ∧ (x = 0 ∨ s (414 + (8 * o)) = x)
def foK (s : Int → Int) (o : Int) : Int := s ((414 + (8 * o)) + 3)
theorem fo_up {s : Int → Int} {x : Int} (n : Nat) : Fst (foP s x) (foK s) 0 n (itv (f218 s x) (-1) 0 n) := by
  have h := itv_inv (f := f218 s x) (a0 := -1) (lo := 0) (fun i a => 0 ≤ i ∧ Fst (foP s x) (foK s) 0 i a) ⟨by omega, Fst.nil (by omega)⟩ n (fun i a h0 h1 hF => ⟨by omega, ?_⟩)
  · rw [Int.zero_add] at h
    exact h.2
  · have hF := hF.2
    unfold f218
    split
    · exact hF.skip (fun hp => by have := hp.1; omega)
    · next c1 =>
      split
      · next c2 =>
        split
        · next c3 => exact hF.take (Int.le_refl 0) h0 ⟨by omega, Or.inl c2⟩ (Or.inl c3)
        · next c3 =>
          split
          · next c4 => exact hF.keep c3 c4
          · next c4 => exact hF.take (Int.le_refl 0) h0 ⟨by omega, Or.inl c2⟩ (Or.inr (by unfold foK; omega))
      · next c2 =>
        split
        · next c3 => exact hF.skip (fun hp => by have := hp.2; omega)
        · next c3 =>
          split
          · next c4 => exact hF.take (Int.le_refl 0) h0 ⟨by omega, Or.inr (by omega)⟩ (Or.inl c4)
          · next c4 =>
            split
            · next c5 => exact hF.keep c4 c5
            · next c5 => exact hF.take (Int.le_refl 0) h0 ⟨by omega, Or.inr (by omega)⟩ (Or.inr (by unfold foK; omega))
theorem fo_218 {s : Int → Int} {x : Int} (h4 : 0 ≤ s 4) : Fst (foP s x) (foK s) 0 (s 4) (r218 s x) := by
  have h := fo_up (s := s) (x := x) (s 4).toNat
  rw [show (((s 4).toNat : Nat) : Int) = s 4 by omega] at h
  exact h
theorem t205 {g : AG} {M : AM} {O : Nat} {A : YA} {s q : Int → Int} {b : Int} {x1 : Int} (hY : Yd g M O A s q) (hV : Val b q s) (hx : 0 ≤ x1 ∧ x1 ≤ 200) : Ok 0 205 0 [aR 101, aI x1, aU, aU, aU] [] g M (Rt (some (aR (nulR A.D (r218 s x1)))) g (fun M9 => M9 = M)) := by
  have hQ := V_q hV
  have y3 := V_3 hV
  have y4 := V_4 hV
  have y5 := V_5 hV
  have yq0 := Q_0 hQ
  have yq1 := Q_1 hQ
  refine ok_null (pc' := 1) i205_0 rfl <| ok_astoren (pc' := 2) (ls' := [aR 101, aI x1, aR 0, aU, aU]) i205_1 (bt rfl) rfl rfl <| ok_aloadn (pc' := 3) i205_2 rfl rfl <| ok_getfi (v := (s 4)) (pc' := 6) i205_3 o205 gi17_100 (hY.gr.ky) ((Yd.n4 hY)) rfl <| ok_iconst (pc' := 7) i205_6 rfl <| ok_isub (v := ((s 4) - 1)) (pc' := 8) i205_7 rfl rfl <| ok_istoren (pc' := 9) (ls' := [aR 101, aI x1, aR 0, aI ((s 4) - 1), aU]) i205_8 (bt rfl) rfl rfl <| ?_
  refine ok_lp (σ := Int × Int) (fun x ls g9 M9 => g9 = g ∧ M9 = M ∧ (-1 ≤ x.1 ∧ x.1 < s 4) ∧ Fst (foP s x1) (foK s) (x.1 + 1) (s 4) x.2 ∧ ∃ w4 : AV, am_cat w4 = 1 ∧ ls = [aR 101, aI x1, aR (nulR A.D x.2), aI x.1, w4]) (fun x => (x.1 + 1).toNat) ?_ (s 4 - 1, -1) _ g M ⟨rfl, rfl, by show -1 ≤ s 4 - 1 ∧ s 4 - 1 < s 4; omega, Fst.nil (by show s 4 ≤ s 4 - 1 + 1; omega), aU, rfl, by rw [nulR_0]⟩
  rintro ⟨k, a⟩ ls g9 M9 ⟨rfl, rfl, hk, hF, w4, hw4, rfl⟩ ih
  dsimp only at *
  have hu := fun (h : k = -1) => Fst.uniq (by omega) (by rw [h] at hF; exact hF) (fo_218 (x := x1) y4.1)
  by_cases hb : a = -1
  · subst hb
    rw [nulR_0]
    refine ok_iloadn (pc' := 10) i205_9 rfl rfl <| ?_
    refine ok_zlt (pc1 := 67) (pc2 := 13) i205_10 (by omega) rfl rfl (fun h1 => ?_) (fun h1 => ?_)
    · refine ok_aloadn (pc' := 68) i205_67 rfl rfl <| ok_aret i205_68 (by rw [rt205]) <| ?_
      exact ⟨by rw [← hu (by omega), nulR_0], rfl, rfl⟩
    · refine ok_aloadn (pc' := 14) i205_13 rfl rfl <| ok_getfr (r := 108) (pc' := 17) i205_14 o205 gr17_40 (hY.gr.ky) (hY.gr.r5) rfl <| ok_iloadn (pc' := 18) i205_17 rfl rfl <| ok_aaload (r := (A.D k)) (pc' := 19) i205_18 (hY.gr.k8) (by decide) (hY.gr.l8) (by omega) ((hY.gr.dd k (by omega) (by omega)).1) rfl <| ok_astore (pc' := 21) (ls' := [aR 101, aI x1, aR 0, aI k, aR (A.D k)]) i205_19 (bt rfl) rfl rfl <| ok_aload (pc' := 23) i205_21 rfl rfl <| ?_
      have z2 : 0 ≤ s ((414 + (8 * k)) + 4) ∧ s ((414 + (8 * k)) + 4) ≤ 9 := V_o4 hV (by omega) (by omega)
      refine ok_getfi (v := (s ((414 + (8 * k)) + 4))) (pc' := 26) i205_23 o205 gi17_127 ((hY.gr.dd k (by omega) (by omega)).2.2) ((Yd.d5 hY (k := k) (by omega) (by omega))) rfl <| ?_
      refine ok_zle (pc1 := 61) (pc2 := 29) i205_26 (by omega) rfl rfl (fun h3 => ?_) (fun h3 => ?_)
      · refine ok_iinc (pc' := 64) (v := (k + (-1))) (ls' := [aR 101, aI x1, aR 0, aI (k + (-1)), aR (A.D k)]) i205_61 rfl rfl rfl rfl <| ok_goto (pc' := 9) i205_64 rfl <| ?_
        refine ih (k + -1, (-1)) _ _ _ (by show (k + -1 + 1).toNat < (k + 1).toNat; omega) ⟨rfl, rfl, by show -1 ≤ k + -1 ∧ k + -1 < s 4; omega, ?_, _, rfl, by show _ = [aR 101, aI x1, aR (nulR A.D (-1)), aI (k + -1), _]; rw [nulR_0]⟩
        show Fst (foP s x1) (foK s) (k + -1 + 1) (s 4) (-1)
        rw [show k + -1 + 1 = k by omega]
        first | exact hF.dskip (fun hp => by unfold foP at hp; omega) | exact hF.dtake (by omega) (by omega) ⟨by omega, by omega⟩ (Or.inl rfl) | exact hF.dtake (by omega) (by omega) ⟨by omega, by omega⟩ (Or.inr (by unfold foK; omega)) | exact hF.dkeep (by omega) (by unfold foK; omega)
      · refine ok_iloadn (pc' := 30) i205_29 rfl rfl <| ?_
        refine ok_zeq (pc1 := 42) (pc2 := 33) i205_30 (by omega) rfl rfl (fun h4 => ?_) (fun h4 => ?_)
        · refine ok_aloadn (pc' := 43) i205_42 rfl rfl <| ok_ifnull1 (pc1 := 58) i205_43 rfl <| ok_aload (pc' := 60) i205_58 rfl rfl <| ok_astoren (pc' := 61) (ls' := [aR 101, aI x1, aR (A.D k), aI k, aR (A.D k)]) i205_60 (bt rfl) rfl rfl <| ok_iinc (pc' := 64) (v := (k + (-1))) (ls' := [aR 101, aI x1, aR (A.D k), aI (k + (-1)), aR (A.D k)]) i205_61 rfl rfl rfl rfl <| ok_goto (pc' := 9) i205_64 rfl <| ?_
          refine ih (k + -1, k) _ _ _ (by show (k + -1 + 1).toNat < (k + 1).toNat; omega) ⟨rfl, rfl, by show -1 ≤ k + -1 ∧ k + -1 < s 4; omega, ?_, _, rfl, by show _ = [aR 101, aI x1, aR (nulR A.D k), aI (k + -1), _]; rw [nulR_1 (by omega)]⟩
          show Fst (foP s x1) (foK s) (k + -1 + 1) (s 4) k
          rw [show k + -1 + 1 = k by omega]
          first | exact hF.dskip (fun hp => by unfold foP at hp; omega) | exact hF.dtake (by omega) (by omega) ⟨by omega, by omega⟩ (Or.inl rfl) | exact hF.dtake (by omega) (by omega) ⟨by omega, by omega⟩ (Or.inr (by unfold foK; omega)) | exact hF.dkeep (by omega) (by unfold foK; omega)
        · refine ok_aload (pc' := 35) i205_33 rfl rfl <| ?_
          have z5 : 1 ≤ s (414 + (8 * k)) ∧ s (414 + (8 * k)) ≤ 200 := V_o0 hV (by omega) (by omega)
          refine ok_getfi (v := (s (414 + (8 * k)))) (pc' := 38) i205_35 o205 gi17_148 ((hY.gr.dd k (by omega) (by omega)).2.2) ((Yd.d1 hY (k := k) (by omega) (by omega))) rfl <| ok_iloadn (pc' := 39) i205_38 rfl rfl <| ?_
          refine ok_cne (pc1 := 61) (pc2 := 42) i205_39 (by omega) rfl rfl (fun h6 => ?_) (fun h6 => ?_)
          · refine ok_iinc (pc' := 64) (v := (k + (-1))) (ls' := [aR 101, aI x1, aR 0, aI (k + (-1)), aR (A.D k)]) i205_61 rfl rfl rfl rfl <| ok_goto (pc' := 9) i205_64 rfl <| ?_
            refine ih (k + -1, (-1)) _ _ _ (by show (k + -1 + 1).toNat < (k + 1).toNat; omega) ⟨rfl, rfl, by show -1 ≤ k + -1 ∧ k + -1 < s 4; omega, ?_, _, rfl, by show _ = [aR 101, aI x1, aR (nulR A.D (-1)), aI (k + -1), _]; rw [nulR_0]⟩
            show Fst (foP s x1) (foK s) (k + -1 + 1) (s 4) (-1)
            rw [show k + -1 + 1 = k by omega]
            first | exact hF.dskip (fun hp => by unfold foP at hp; omega) | exact hF.dtake (by omega) (by omega) ⟨by omega, by omega⟩ (Or.inl rfl) | exact hF.dtake (by omega) (by omega) ⟨by omega, by omega⟩ (Or.inr (by unfold foK; omega)) | exact hF.dkeep (by omega) (by unfold foK; omega)
          · refine ok_aloadn (pc' := 43) i205_42 rfl rfl <| ok_ifnull1 (pc1 := 58) i205_43 rfl <| ok_aload (pc' := 60) i205_58 rfl rfl <| ok_astoren (pc' := 61) (ls' := [aR 101, aI x1, aR (A.D k), aI k, aR (A.D k)]) i205_60 (bt rfl) rfl rfl <| ok_iinc (pc' := 64) (v := (k + (-1))) (ls' := [aR 101, aI x1, aR (A.D k), aI (k + (-1)), aR (A.D k)]) i205_61 rfl rfl rfl rfl <| ok_goto (pc' := 9) i205_64 rfl <| ?_
            refine ih (k + -1, k) _ _ _ (by show (k + -1 + 1).toNat < (k + 1).toNat; omega) ⟨rfl, rfl, by show -1 ≤ k + -1 ∧ k + -1 < s 4; omega, ?_, _, rfl, by show _ = [aR 101, aI x1, aR (nulR A.D k), aI (k + -1), _]; rw [nulR_1 (by omega)]⟩
            show Fst (foP s x1) (foK s) (k + -1 + 1) (s 4) k
            rw [show k + -1 + 1 = k by omega]
            first | exact hF.dskip (fun hp => by unfold foP at hp; omega) | exact hF.dtake (by omega) (by omega) ⟨by omega, by omega⟩ (Or.inl rfl) | exact hF.dtake (by omega) (by omega) ⟨by omega, by omega⟩ (Or.inr (by unfold foK; omega)) | exact hF.dkeep (by omega) (by unfold foK; omega)
  · rw [nulR_1 hb]
    have ha : 0 ≤ a ∧ a < s 4 := by have := hF.rg (by omega); omega
    refine ok_iloadn (pc' := 10) i205_9 rfl rfl <| ?_
    refine ok_zlt (pc1 := 67) (pc2 := 13) i205_10 (by omega) rfl rfl (fun h1 => ?_) (fun h1 => ?_)
    · refine ok_aloadn (pc' := 68) i205_67 rfl rfl <| ok_aret i205_68 (by rw [rt205]) <| ?_
      exact ⟨by rw [← hu (by omega), nulR_1 hb], rfl, rfl⟩
    · refine ok_aloadn (pc' := 14) i205_13 rfl rfl <| ok_getfr (r := 108) (pc' := 17) i205_14 o205 gr17_40 (hY.gr.ky) (hY.gr.r5) rfl <| ok_iloadn (pc' := 18) i205_17 rfl rfl <| ok_aaload (r := (A.D k)) (pc' := 19) i205_18 (hY.gr.k8) (by decide) (hY.gr.l8) (by omega) ((hY.gr.dd k (by omega) (by omega)).1) rfl <| ok_astore (pc' := 21) (ls' := [aR 101, aI x1, aR (A.D a), aI k, aR (A.D k)]) i205_19 (bt rfl) rfl rfl <| ok_aload (pc' := 23) i205_21 rfl rfl <| ?_
      have z2 : 0 ≤ s ((414 + (8 * k)) + 4) ∧ s ((414 + (8 * k)) + 4) ≤ 9 := V_o4 hV (by omega) (by omega)
      refine ok_getfi (v := (s ((414 + (8 * k)) + 4))) (pc' := 26) i205_23 o205 gi17_127 ((hY.gr.dd k (by omega) (by omega)).2.2) ((Yd.d5 hY (k := k) (by omega) (by omega))) rfl <| ?_
      refine ok_zle (pc1 := 61) (pc2 := 29) i205_26 (by omega) rfl rfl (fun h3 => ?_) (fun h3 => ?_)
      · refine ok_iinc (pc' := 64) (v := (k + (-1))) (ls' := [aR 101, aI x1, aR (A.D a), aI (k + (-1)), aR (A.D k)]) i205_61 rfl rfl rfl rfl <| ok_goto (pc' := 9) i205_64 rfl <| ?_
        refine ih (k + -1, a) _ _ _ (by show (k + -1 + 1).toNat < (k + 1).toNat; omega) ⟨rfl, rfl, by show -1 ≤ k + -1 ∧ k + -1 < s 4; omega, ?_, _, rfl, by show _ = [aR 101, aI x1, aR (nulR A.D a), aI (k + -1), _]; rw [nulR_1 (by omega)]⟩
        show Fst (foP s x1) (foK s) (k + -1 + 1) (s 4) a
        rw [show k + -1 + 1 = k by omega]
        first | exact hF.dskip (fun hp => by unfold foP at hp; omega) | exact hF.dtake (by omega) (by omega) ⟨by omega, by omega⟩ (Or.inl rfl) | exact hF.dtake (by omega) (by omega) ⟨by omega, by omega⟩ (Or.inr (by unfold foK; omega)) | exact hF.dkeep (by omega) (by unfold foK; omega)
      · refine ok_iloadn (pc' := 30) i205_29 rfl rfl <| ?_
        refine ok_zeq (pc1 := 42) (pc2 := 33) i205_30 (by omega) rfl rfl (fun h4 => ?_) (fun h4 => ?_)
        · refine ok_aloadn (pc' := 43) i205_42 rfl rfl <| ok_ifnull0 (pc1 := 46) i205_43 (Or.inl (Nat.le_trans (by decide) (hY.gr.dd a (by omega) (by omega)).2.1.1)) (by decide) rfl <| ok_aload (pc' := 48) i205_46 rfl rfl <| ?_
          have z5 : 0 ≤ s ((414 + (8 * k)) + 3) ∧ s ((414 + (8 * k)) + 3) ≤ 999 := V_o3 hV (by omega) (by omega)
          refine ok_getfi (v := (s ((414 + (8 * k)) + 3))) (pc' := 51) i205_48 o205 gi17_136 ((hY.gr.dd k (by omega) (by omega)).2.2) ((Yd.d4 hY (k := k) (by omega) (by omega))) rfl <| ok_aloadn (pc' := 52) i205_51 rfl rfl <| ?_
          have z6 : 0 ≤ s ((414 + (8 * a)) + 3) ∧ s ((414 + (8 * a)) + 3) ≤ 999 := V_o3 hV (by omega) (by omega)
          refine ok_getfi (v := (s ((414 + (8 * a)) + 3))) (pc' := 55) i205_52 o205 gi17_136 ((hY.gr.dd a (by omega) (by omega)).2.2) ((Yd.d4 hY (k := a) (by omega) (by omega))) rfl <| ?_
          refine ok_cgt (pc1 := 61) (pc2 := 58) i205_55 (by omega) rfl rfl (fun h7 => ?_) (fun h7 => ?_)
          · refine ok_iinc (pc' := 64) (v := (k + (-1))) (ls' := [aR 101, aI x1, aR (A.D a), aI (k + (-1)), aR (A.D k)]) i205_61 rfl rfl rfl rfl <| ok_goto (pc' := 9) i205_64 rfl <| ?_
            refine ih (k + -1, a) _ _ _ (by show (k + -1 + 1).toNat < (k + 1).toNat; omega) ⟨rfl, rfl, by show -1 ≤ k + -1 ∧ k + -1 < s 4; omega, ?_, _, rfl, by show _ = [aR 101, aI x1, aR (nulR A.D a), aI (k + -1), _]; rw [nulR_1 (by omega)]⟩
            show Fst (foP s x1) (foK s) (k + -1 + 1) (s 4) a
            rw [show k + -1 + 1 = k by omega]
            first | exact hF.dskip (fun hp => by unfold foP at hp; omega) | exact hF.dtake (by omega) (by omega) ⟨by omega, by omega⟩ (Or.inl rfl) | exact hF.dtake (by omega) (by omega) ⟨by omega, by omega⟩ (Or.inr (by unfold foK; omega)) | exact hF.dkeep (by omega) (by unfold foK; omega)
          · refine ok_aload (pc' := 60) i205_58 rfl rfl <| ok_astoren (pc' := 61) (ls' := [aR 101, aI x1, aR (A.D k), aI k, aR (A.D k)]) i205_60 (bt rfl) rfl rfl <| ok_iinc (pc' := 64) (v := (k + (-1))) (ls' := [aR 101, aI x1, aR (A.D k), aI (k + (-1)), aR (A.D k)]) i205_61 rfl rfl rfl rfl <| ok_goto (pc' := 9) i205_64 rfl <| ?_
            refine ih (k + -1, k) _ _ _ (by show (k + -1 + 1).toNat < (k + 1).toNat; omega) ⟨rfl, rfl, by show -1 ≤ k + -1 ∧ k + -1 < s 4; omega, ?_, _, rfl, by show _ = [aR 101, aI x1, aR (nulR A.D k), aI (k + -1), _]; rw [nulR_1 (by omega)]⟩
            show Fst (foP s x1) (foK s) (k + -1 + 1) (s 4) k
            rw [show k + -1 + 1 = k by omega]
            first | exact hF.dskip (fun hp => by unfold foP at hp; omega) | exact hF.dtake (by omega) (by omega) ⟨by omega, by omega⟩ (Or.inl rfl) | exact hF.dtake (by omega) (by omega) ⟨by omega, by omega⟩ (Or.inr (by unfold foK; omega)) | exact hF.dkeep (by omega) (by unfold foK; omega)
        · refine ok_aload (pc' := 35) i205_33 rfl rfl <| ?_
          have z8 : 1 ≤ s (414 + (8 * k)) ∧ s (414 + (8 * k)) ≤ 200 := V_o0 hV (by omega) (by omega)
          refine ok_getfi (v := (s (414 + (8 * k)))) (pc' := 38) i205_35 o205 gi17_148 ((hY.gr.dd k (by omega) (by omega)).2.2) ((Yd.d1 hY (k := k) (by omega) (by omega))) rfl <| ok_iloadn (pc' := 39) i205_38 rfl rfl <| ?_
          refine ok_cne (pc1 := 61) (pc2 := 42) i205_39 (by omega) rfl rfl (fun h9 => ?_) (fun h9 => ?_)
          · refine ok_iinc (pc' := 64) (v := (k + (-1))) (ls' := [aR 101, aI x1, aR (A.D a), aI (k + (-1)), aR (A.D k)]) i205_61 rfl rfl rfl rfl <| ok_goto (pc' := 9) i205_64 rfl <| ?_
            refine ih (k + -1, a) _ _ _ (by show (k + -1 + 1).toNat < (k + 1).toNat; omega) ⟨rfl, rfl, by show -1 ≤ k + -1 ∧ k + -1 < s 4; omega, ?_, _, rfl, by show _ = [aR 101, aI x1, aR (nulR A.D a), aI (k + -1), _]; rw [nulR_1 (by omega)]⟩
            show Fst (foP s x1) (foK s) (k + -1 + 1) (s 4) a
            rw [show k + -1 + 1 = k by omega]
            first | exact hF.dskip (fun hp => by unfold foP at hp; omega) | exact hF.dtake (by omega) (by omega) ⟨by omega, by omega⟩ (Or.inl rfl) | exact hF.dtake (by omega) (by omega) ⟨by omega, by omega⟩ (Or.inr (by unfold foK; omega)) | exact hF.dkeep (by omega) (by unfold foK; omega)
          · refine ok_aloadn (pc' := 43) i205_42 rfl rfl <| ok_ifnull0 (pc1 := 46) i205_43 (Or.inl (Nat.le_trans (by decide) (hY.gr.dd a (by omega) (by omega)).2.1.1)) (by decide) rfl <| ok_aload (pc' := 48) i205_46 rfl rfl <| ?_
            have z10 : 0 ≤ s ((414 + (8 * k)) + 3) ∧ s ((414 + (8 * k)) + 3) ≤ 999 := V_o3 hV (by omega) (by omega)
            refine ok_getfi (v := (s ((414 + (8 * k)) + 3))) (pc' := 51) i205_48 o205 gi17_136 ((hY.gr.dd k (by omega) (by omega)).2.2) ((Yd.d4 hY (k := k) (by omega) (by omega))) rfl <| ok_aloadn (pc' := 52) i205_51 rfl rfl <| ?_
            have z11 : 0 ≤ s ((414 + (8 * a)) + 3) ∧ s ((414 + (8 * a)) + 3) ≤ 999 := V_o3 hV (by omega) (by omega)
            refine ok_getfi (v := (s ((414 + (8 * a)) + 3))) (pc' := 55) i205_52 o205 gi17_136 ((hY.gr.dd a (by omega) (by omega)).2.2) ((Yd.d4 hY (k := a) (by omega) (by omega))) rfl <| ?_
            refine ok_cgt (pc1 := 61) (pc2 := 58) i205_55 (by omega) rfl rfl (fun h12 => ?_) (fun h12 => ?_)
            · refine ok_iinc (pc' := 64) (v := (k + (-1))) (ls' := [aR 101, aI x1, aR (A.D a), aI (k + (-1)), aR (A.D k)]) i205_61 rfl rfl rfl rfl <| ok_goto (pc' := 9) i205_64 rfl <| ?_
              refine ih (k + -1, a) _ _ _ (by show (k + -1 + 1).toNat < (k + 1).toNat; omega) ⟨rfl, rfl, by show -1 ≤ k + -1 ∧ k + -1 < s 4; omega, ?_, _, rfl, by show _ = [aR 101, aI x1, aR (nulR A.D a), aI (k + -1), _]; rw [nulR_1 (by omega)]⟩
              show Fst (foP s x1) (foK s) (k + -1 + 1) (s 4) a
              rw [show k + -1 + 1 = k by omega]
              first | exact hF.dskip (fun hp => by unfold foP at hp; omega) | exact hF.dtake (by omega) (by omega) ⟨by omega, by omega⟩ (Or.inl rfl) | exact hF.dtake (by omega) (by omega) ⟨by omega, by omega⟩ (Or.inr (by unfold foK; omega)) | exact hF.dkeep (by omega) (by unfold foK; omega)
            · refine ok_aload (pc' := 60) i205_58 rfl rfl <| ok_astoren (pc' := 61) (ls' := [aR 101, aI x1, aR (A.D k), aI k, aR (A.D k)]) i205_60 (bt rfl) rfl rfl <| ok_iinc (pc' := 64) (v := (k + (-1))) (ls' := [aR 101, aI x1, aR (A.D k), aI (k + (-1)), aR (A.D k)]) i205_61 rfl rfl rfl rfl <| ok_goto (pc' := 9) i205_64 rfl <| ?_
              refine ih (k + -1, k) _ _ _ (by show (k + -1 + 1).toNat < (k + 1).toNat; omega) ⟨rfl, rfl, by show -1 ≤ k + -1 ∧ k + -1 < s 4; omega, ?_, _, rfl, by show _ = [aR 101, aI x1, aR (nulR A.D k), aI (k + -1), _]; rw [nulR_1 (by omega)]⟩
              show Fst (foP s x1) (foK s) (k + -1 + 1) (s 4) k
              rw [show k + -1 + 1 = k by omega]
              first | exact hF.dskip (fun hp => by unfold foP at hp; omega) | exact hF.dtake (by omega) (by omega) ⟨by omega, by omega⟩ (Or.inl rfl) | exact hF.dtake (by omega) (by omega) ⟨by omega, by omega⟩ (Or.inr (by unfold foK; omega)) | exact hF.dkeep (by omega) (by unfold foK; omega)
def lfF (s f : Int → Int) (i has : Int) : Int := if has < f i then -1 else max 0 ((has - f i) - s 1)
def lfY (s f : Int → Int) (n k : Int) : Int := itv (lfF s f) (if s (174 + k) = 0 then s (94 + k) else -1) 0 n.toNat
def RowV (n : Int) (f : Int → Int) : Prop := (0 ≤ n ∧ n ≤ 6) ∧ ∀ i : Int, 0 ≤ i → i < n → 1 ≤ f i ∧ f i ≤ 200
theorem t200 {g : AG} {M : AM} {O : Nat} {A : YA} {s q : Int → Int} {b : Int} {x : Nat} {k n : Int} {f : Int → Int} (hY : Yd g M O A s q) (hV : Val b q s) (hk : 0 ≤ k ∧ k < s 3) (hA : IA g M x n f) (hW : RowV n f) : Ok 0 200 0 [aR 101, aR (A.R k), aR x, aU, aU, aU, aU, aU] [] g M (Rt (some (aI (lfY s f n k))) g (fun M9 => M9 = M)) := by
  have hQ := V_q hV
  have y3 := V_3 hV
  have y4 := V_4 hV
  have y5 := V_5 hV
  have yq0 := Q_0 hQ
  have yq1 := Q_1 hQ
  have hn := hW.1
  refine ok_aloadn (pc' := 1) i200_0 rfl rfl <| ?_
  have z1 : 0 ≤ s (174 + k) ∧ s (174 + k) ≤ 2 := V_d2 hV (by omega) (by omega)
  refine ok_getfi (v := (s (174 + k))) (pc' := 4) i200_1 o200 gi17_160 ((hY.gr.rr k (by omega) (by omega)).2.2) ((Yd.r3 hY (k := k) (by omega) (by omega))) rfl <| ?_
  refine ok_zne (pc1 := 14) (pc2 := 7) i200_4 (by omega) rfl rfl (fun h2 => ?_) (fun h2 => ?_)
  · refine ok_iconst (pc' := 15) i200_14 rfl <| ok_istoren (pc' := 16) (ls' := [aR 101, aR (A.R k), aR x, aI (-1), aU, aU, aU, aU]) i200_15 (bt rfl) rfl rfl <| ok_aloadn (pc' := 17) i200_16 rfl rfl <| ok_astore (pc' := 19) (ls' := [aR 101, aR (A.R k), aR x, aI (-1), aR x, aU, aU, aU]) i200_17 (bt rfl) rfl rfl <| ok_aload (pc' := 21) i200_19 rfl rfl <| ok_arrlen (v := n) (pc' := 22) i200_21 (hA.1) (by decide) (hA.2.1) rfl <| ok_istore (pc' := 24) (ls' := [aR 101, aR (A.R k), aR x, aI (-1), aR x, aI n, aU, aU]) i200_22 (bt rfl) rfl rfl <| ok_iconst (pc' := 25) i200_24 rfl <| ?_
    refine ok_istore (pc' := 27) (ls' := [aR 101, aR (A.R k), aR x, aI (-1), aR x, aI n, aI 0, aU]) i200_25 (bt rfl) rfl rfl <| ?_
    have e0 : (if s (174 + k) = 0 then s (94 + k) else -1) = (-1) := by split <;> omega
    refine ok_for (lo := 0) (n := n.toNat) (f := lfF s f) (a0 := (-1)) (fun i a ls M9 => M9 = M ∧ (-1 ≤ a ∧ a ≤ 200) ∧ ∃ w7 : AV, am_cat w7 = 1 ∧ ls = [aR 101, aR (A.R k), aR x, aI a, aR x, aI n, aI i, w7]) ?_ ?_ _ _ ⟨rfl, by omega, aU, rfl, rfl⟩
    · rintro i a ls M9 g1 g2 ⟨rfl, hinv, w7, hw7, rfl⟩ ih
      have g3 : i < n := by omega
      refine ok_iload (pc' := 29) i200_27 rfl rfl <| ok_iload (pc' := 31) i200_29 rfl rfl <| ?_
      refine ok_cge (pc1 := 71) (pc2 := 34) i200_31 (by omega) rfl rfl (fun h9 => by exfalso; omega) (fun h51 => ?_)
      refine ok_aload (pc' := 36) i200_34 rfl rfl <| ok_iload (pc' := 38) i200_36 rfl rfl <| ?_
      have b52 := hA.2.1
      have z53 : 1 ≤ (f i) ∧ (f i) ≤ 200 := hW.2 i (by omega) (by omega)
      refine ok_iaload (v := (f i)) (pc' := 39) i200_38 (hA.1) (by decide) (rfl) (by omega) ((hA.2.2 i (by omega) (by omega))) rfl <| ok_istore (pc' := 41) (ls' := [aR 101, aR (A.R k), aR x, aI a, aR x, aI n, aI i, aI (f i)]) i200_39 (bt rfl) rfl rfl <| ok_iloadn (pc' := 42) i200_41 rfl rfl <| ok_iload (pc' := 44) i200_42 rfl rfl <| ?_
      refine ok_cge (pc1 := 51) (pc2 := 47) i200_44 (by omega) rfl rfl (fun h54 => ?_) (fun h54 => ?_)
      · refine ok_iconst (pc' := 52) i200_51 rfl <| ok_iloadn (pc' := 53) i200_52 rfl rfl <| ok_iload (pc' := 55) i200_53 rfl rfl <| ok_isub (v := (a - (f i))) (pc' := 56) i200_55 rfl rfl <| ok_aloadn (pc' := 57) i200_56 rfl rfl <| ?_
        have z55 : 0 ≤ s 1 ∧ s 1 ≤ 9 := V_1 hV
        refine ok_getfi (v := (s 1)) (pc' := 60) i200_57 o200 gi17_56 (hY.gr.ky) ((Yd.n1 hY)) rfl <| ok_isub (v := ((a - (f i)) - (s 1))) (pc' := 61) i200_60 rfl rfl <| ok_max (v := (max 0 ((a - (f i)) - (s 1)))) (pc' := 64) i200_61 o200 m17_179 (by omega) (bt rfl) rfl rfl <| ?_
        have z56 : 0 ≤ (max 0 ((a - (f i)) - (s 1))) ∧ ((a - (f i)) - (s 1)) ≤ (max 0 ((a - (f i)) - (s 1))) := by omega
        have z57 : (max 0 ((a - (f i)) - (s 1))) ≤ 200 := by omega
        refine ok_istoren (pc' := 65) (ls' := [aR 101, aR (A.R k), aR x, aI (max 0 ((a - (f i)) - (s 1))), aR x, aI n, aI i, aI (f i)]) i200_64 (bt rfl) rfl rfl <| ok_iinc (pc' := 68) (v := (i + 1)) (ls' := [aR 101, aR (A.R k), aR x, aI (max 0 ((a - (f i)) - (s 1))), aR x, aI n, aI (i + 1), aI (f i)]) i200_65 rfl rfl rfl rfl <| ok_goto (pc' := 27) i200_68 rfl <| ?_
        have e : lfF s f i a = (max 0 ((a - (f i)) - (s 1))) := by unfold lfF; split <;> omega
        exact ih _ _ ⟨rfl, by rw [e]; omega, _, rfl, by rw [e]⟩
      · refine ok_iconst (pc' := 48) i200_47 rfl <| ok_goto (pc' := 64) i200_48 rfl <| ok_istoren (pc' := 65) (ls' := [aR 101, aR (A.R k), aR x, aI (-1), aR x, aI n, aI i, aI (f i)]) i200_64 (bt rfl) rfl rfl <| ok_iinc (pc' := 68) (v := (i + 1)) (ls' := [aR 101, aR (A.R k), aR x, aI (-1), aR x, aI n, aI (i + 1), aI (f i)]) i200_65 rfl rfl rfl rfl <| ok_goto (pc' := 27) i200_68 rfl <| ?_
        have e : lfF s f i a = (-1) := by unfold lfF; split <;> omega
        exact ih _ _ ⟨rfl, by rw [e]; omega, _, rfl, by rw [e]⟩
    · rintro i a ls M9 g1 g2 ⟨rfl, hinv, w7, hw7, rfl⟩
      have g3 : i = n := by omega
      refine ok_iload (pc' := 29) i200_27 rfl rfl <| ok_iload (pc' := 31) i200_29 rfl rfl <| ?_
      refine ok_cge (pc1 := 71) (pc2 := 34) i200_31 (by omega) rfl rfl (fun h51 => ?_) (fun h9 => by exfalso; omega)
      refine ok_iloadn (pc' := 72) i200_71 rfl rfl <| ok_ireti i200_72 rt200 <| ?_
      have e2 : lfY s f n k = a := by unfold lfY; rw [e0]; exact g2
      exact ⟨by rw [e2], rfl, rfl⟩
  · refine ok_aloadn (pc' := 8) i200_7 rfl rfl <| ?_
    have z3 : 0 ≤ s (94 + k) ∧ s (94 + k) ≤ 200 := V_d1 hV (by omega) (by omega)
    refine ok_getfi (v := (s (94 + k))) (pc' := 11) i200_8 o200 gi17_154 ((hY.gr.rr k (by omega) (by omega)).2.2) ((Yd.r2 hY (k := k) (by omega) (by omega))) rfl <| ok_goto (pc' := 15) i200_11 rfl <| ok_istoren (pc' := 16) (ls' := [aR 101, aR (A.R k), aR x, aI (s (94 + k)), aU, aU, aU, aU]) i200_15 (bt rfl) rfl rfl <| ok_aloadn (pc' := 17) i200_16 rfl rfl <| ok_astore (pc' := 19) (ls' := [aR 101, aR (A.R k), aR x, aI (s (94 + k)), aR x, aU, aU, aU]) i200_17 (bt rfl) rfl rfl <| ok_aload (pc' := 21) i200_19 rfl rfl <| ok_arrlen (v := n) (pc' := 22) i200_21 (hA.1) (by decide) (hA.2.1) rfl <| ok_istore (pc' := 24) (ls' := [aR 101, aR (A.R k), aR x, aI (s (94 + k)), aR x, aI n, aU, aU]) i200_22 (bt rfl) rfl rfl <| ?_
    refine ok_iconst (pc' := 25) i200_24 rfl <| ok_istore (pc' := 27) (ls' := [aR 101, aR (A.R k), aR x, aI (s (94 + k)), aR x, aI n, aI 0, aU]) i200_25 (bt rfl) rfl rfl <| ?_
    have e0 : (if s (174 + k) = 0 then s (94 + k) else -1) = (s (94 + k)) := by split <;> omega
    refine ok_for (lo := 0) (n := n.toNat) (f := lfF s f) (a0 := (s (94 + k))) (fun i a ls M9 => M9 = M ∧ (-1 ≤ a ∧ a ≤ 200) ∧ ∃ w7 : AV, am_cat w7 = 1 ∧ ls = [aR 101, aR (A.R k), aR x, aI a, aR x, aI n, aI i, w7]) ?_ ?_ _ _ ⟨rfl, by omega, aU, rfl, rfl⟩
    · rintro i a ls M9 g1 g2 ⟨rfl, hinv, w7, hw7, rfl⟩ ih
      have g3 : i < n := by omega
      refine ok_iload (pc' := 29) i200_27 rfl rfl <| ok_iload (pc' := 31) i200_29 rfl rfl <| ?_
      refine ok_cge (pc1 := 71) (pc2 := 34) i200_31 (by omega) rfl rfl (fun h9 => by exfalso; omega) (fun h51 => ?_)
      refine ok_aload (pc' := 36) i200_34 rfl rfl <| ok_iload (pc' := 38) i200_36 rfl rfl <| ?_
      have b52 := hA.2.1
      have z53 : 1 ≤ (f i) ∧ (f i) ≤ 200 := hW.2 i (by omega) (by omega)
      refine ok_iaload (v := (f i)) (pc' := 39) i200_38 (hA.1) (by decide) (rfl) (by omega) ((hA.2.2 i (by omega) (by omega))) rfl <| ok_istore (pc' := 41) (ls' := [aR 101, aR (A.R k), aR x, aI a, aR x, aI n, aI i, aI (f i)]) i200_39 (bt rfl) rfl rfl <| ok_iloadn (pc' := 42) i200_41 rfl rfl <| ok_iload (pc' := 44) i200_42 rfl rfl <| ?_
      refine ok_cge (pc1 := 51) (pc2 := 47) i200_44 (by omega) rfl rfl (fun h54 => ?_) (fun h54 => ?_)
      · refine ok_iconst (pc' := 52) i200_51 rfl <| ok_iloadn (pc' := 53) i200_52 rfl rfl <| ok_iload (pc' := 55) i200_53 rfl rfl <| ok_isub (v := (a - (f i))) (pc' := 56) i200_55 rfl rfl <| ok_aloadn (pc' := 57) i200_56 rfl rfl <| ?_
        have z55 : 0 ≤ s 1 ∧ s 1 ≤ 9 := V_1 hV
        refine ok_getfi (v := (s 1)) (pc' := 60) i200_57 o200 gi17_56 (hY.gr.ky) ((Yd.n1 hY)) rfl <| ok_isub (v := ((a - (f i)) - (s 1))) (pc' := 61) i200_60 rfl rfl <| ok_max (v := (max 0 ((a - (f i)) - (s 1)))) (pc' := 64) i200_61 o200 m17_179 (by omega) (bt rfl) rfl rfl <| ?_
        have z56 : 0 ≤ (max 0 ((a - (f i)) - (s 1))) ∧ ((a - (f i)) - (s 1)) ≤ (max 0 ((a - (f i)) - (s 1))) := by omega
        have z57 : (max 0 ((a - (f i)) - (s 1))) ≤ 200 := by omega
        refine ok_istoren (pc' := 65) (ls' := [aR 101, aR (A.R k), aR x, aI (max 0 ((a - (f i)) - (s 1))), aR x, aI n, aI i, aI (f i)]) i200_64 (bt rfl) rfl rfl <| ok_iinc (pc' := 68) (v := (i + 1)) (ls' := [aR 101, aR (A.R k), aR x, aI (max 0 ((a - (f i)) - (s 1))), aR x, aI n, aI (i + 1), aI (f i)]) i200_65 rfl rfl rfl rfl <| ok_goto (pc' := 27) i200_68 rfl <| ?_
        have e : lfF s f i a = (max 0 ((a - (f i)) - (s 1))) := by unfold lfF; split <;> omega
        exact ih _ _ ⟨rfl, by rw [e]; omega, _, rfl, by rw [e]⟩
      · refine ok_iconst (pc' := 48) i200_47 rfl <| ok_goto (pc' := 64) i200_48 rfl <| ok_istoren (pc' := 65) (ls' := [aR 101, aR (A.R k), aR x, aI (-1), aR x, aI n, aI i, aI (f i)]) i200_64 (bt rfl) rfl rfl <| ok_iinc (pc' := 68) (v := (i + 1)) (ls' := [aR 101, aR (A.R k), aR x, aI (-1), aR x, aI n, aI (i + 1), aI (f i)]) i200_65 rfl rfl rfl rfl <| ok_goto (pc' := 27) i200_68 rfl <| ?_
        have e : lfF s f i a = (-1) := by unfold lfF; split <;> omega
        exact ih _ _ ⟨rfl, by rw [e]; omega, _, rfl, by rw [e]⟩
    · rintro i a ls M9 g1 g2 ⟨rfl, hinv, w7, hw7, rfl⟩
      have g3 : i = n := by omega
      refine ok_iload (pc' := 29) i200_27 rfl rfl <| ok_iload (pc' := 31) i200_29 rfl rfl <| ?_
      refine ok_cge (pc1 := 71) (pc2 := 34) i200_31 (by omega) rfl rfl (fun h51 => ?_) (fun h9 => by exfalso; omega)
      refine ok_iloadn (pc' := 72) i200_71 rfl rfl <| ok_ireti i200_72 rt200 <| ?_
      have e2 : lfY s f n k = a := by unfold lfY; rw [e0]; exact g2
      exact ⟨by rw [e2], rfl, rfl⟩
theorem lfY_rg {b n k : Int} {q s f : Int → Int} (hV : Val b q s) (hW : RowV n f) (hk : 0 ≤ k ∧ k < s 3) : -1 ≤ lfY s f n k ∧ lfY s f n k ≤ 200 := by
  have z := V_d1 hV hk.1 hk.2
  have y1 := V_1 hV
  have h := itv_inv (f := lfF s f) (a0 := if s (174 + k) = 0 then s (94 + k) else -1) (lo := 0) (fun i a => (0 ≤ i) ∧ -1 ≤ a ∧ a ≤ 200) ⟨by omega, by split <;> omega⟩ n.toNat (fun i a h0 h1 hF => ⟨by omega, ?_⟩)
  · exact h.2
  · have := hW.2 i h0 (by have := hW.1; omega)
    unfold lfF
    split <;> omega
def rfP (s f : Int → Int) (n k : Int) : Prop := 0 ≤ lfY s f n k
def rfK (s : Int → Int) (p k : Int) : Int := if p = 1 then s (94 + k) else if p = 2 then -(s (94 + k)) else 0
theorem t199 {g : AG} {M : AM} {O : Nat} {A : YA} {s q : Int → Int} {b : Int} {x : Nat} {x2 n : Int} {f : Int → Int} (hY : Yd g M O A s q) (hV : Val b q s) (hA : IA g M x n f) (hW : RowV n f) (hx : 0 ≤ x2 ∧ x2 ≤ 2) : Ok 1 199 0 [aR 101, aR x, aI x2, aU, aU] [] g M (fun o g1 M1 => g1 = g ∧ M1 = M ∧ ∃ a : Int, Fst (rfP s f n) (rfK s x2) 0 (s 3) a ∧ o = .inl (some (aR (nulR A.R a)))) := by
  have hQ := V_q hV
  have y3 := V_3 hV
  have y4 := V_4 hV
  have y5 := V_5 hV
  have yq0 := Q_0 hQ
  have yq1 := Q_1 hQ
  have hn := hW.1
  refine ok_null (pc' := 1) i199_0 rfl <| ok_astoren (pc' := 2) (ls' := [aR 101, aR x, aI x2, aR 0, aU]) i199_1 (bt rfl) rfl rfl <| ok_iconst (pc' := 3) i199_2 rfl <| ok_istore (pc' := 5) (ls' := [aR 101, aR x, aI x2, aR 0, aI 0]) i199_3 (bt rfl) rfl rfl <| ?_
  refine ok_lp (σ := Int × Int) (fun z ls g9 M9 => g9 = g ∧ M9 = M ∧ (0 ≤ z.1 ∧ z.1 ≤ s 3) ∧ Fst (rfP s f n) (rfK s x2) 0 z.1 z.2 ∧ ls = [aR 101, aR x, aI x2, aR (nulR A.R z.2), aI z.1]) (fun z => (s 3 - z.1).toNat) ?_ (0, -1) _ g M ⟨rfl, rfl, by show 0 ≤ (0 : Int) ∧ 0 ≤ s 3; omega, Fst.nil (Int.le_refl 0), by rw [nulR_0]⟩
  rintro ⟨i, a⟩ ls g9 M9 ⟨rfl, rfl, hi, hF, rfl⟩ ih
  dsimp only at *
  by_cases hb : a = -1
  · subst hb
    rw [nulR_0]
    refine ok_iload (pc' := 7) i199_5 rfl rfl <| ok_aloadn (pc' := 8) i199_7 rfl rfl <| ok_getfi (v := (s 3)) (pc' := 11) i199_8 o199 gi17_97 (hY.gr.ky) ((Yd.n3 hY)) rfl <| ?_
    refine ok_cge (pc1 := 94) (pc2 := 14) i199_11 (by omega) rfl rfl (fun h1 => ?_) (fun h1 => ?_)
    · refine ok_aloadn (pc' := 95) i199_94 rfl rfl <| ok_aret i199_95 (by rw [rt199]) <| ?_
      exact ⟨rfl, rfl, -1, by rw [show s 3 = i by omega]; exact hF, by rw [nulR_0]⟩
    · refine ok_aloadn (pc' := 15) i199_14 rfl rfl <| ok_aloadn (pc' := 16) i199_15 rfl rfl <| ok_getfr (r := 107) (pc' := 19) i199_16 o199 gr17_34 (hY.gr.ky) (hY.gr.r4) rfl <| ok_iload (pc' := 21) i199_19 rfl rfl <| ok_aaload (r := (A.R i)) (pc' := 22) i199_21 (hY.gr.k7) (by decide) (hY.gr.l7) (by omega) ((hY.gr.rr i (by omega) (by omega)).1) rfl <| ok_aloadn (pc' := 23) i199_22 rfl rfl <| ?_
      refine ok_cc i199_23 rfl (cl_v o199 m17_186 na200 rfl rfl (bt rfl) (bt rfl) rfl (by rw [hY.gr.ky, o200])) ln200 (pd200 (aR 101) (aR (A.R i)) (aR x)) <| (Ok.deep (t200 hY hV ⟨by omega, by omega⟩ hA hW) (by omega)).mono (fun o9 g9 M9 p9 => ?_)
      obtain ⟨rfl, e2, e3⟩ := p9
      rw [e2, e3]
      have z2 : -1 ≤ (lfY s f n i) ∧ (lfY s f n i) ≤ 200 := lfY_rg hV hW ⟨by omega, by omega⟩
      refine kt_v (pc' := 26) rfl <| ?_
      refine ok_zge (pc1 := 32) (pc2 := 29) i199_26 (by omega) rfl rfl (fun h3 => ?_) (fun h3 => ?_)
      · refine ok_aloadn (pc' := 33) i199_32 rfl rfl <| ok_ifnull1 (pc1 := 80) i199_33 rfl <| ok_aloadn (pc' := 81) i199_80 rfl rfl <| ok_getfr (r := 107) (pc' := 84) i199_81 o199 gr17_34 (hY.gr.ky) (hY.gr.r4) rfl <| ok_iload (pc' := 86) i199_84 rfl rfl <| ok_aaload (r := (A.R i)) (pc' := 87) i199_86 (hY.gr.k7) (by decide) (hY.gr.l7) (by omega) ((hY.gr.rr i (by omega) (by omega)).1) rfl <| ok_astoren (pc' := 88) (ls' := [aR 101, aR x, aI x2, aR (A.R i), aI i]) i199_87 (bt rfl) rfl rfl <| ok_iinc (pc' := 91) (v := (i + 1)) (ls' := [aR 101, aR x, aI x2, aR (A.R i), aI (i + 1)]) i199_88 rfl rfl rfl rfl <| ?_
        refine ok_goto (pc' := 5) i199_91 rfl <| ?_
        refine ih (i + 1, i) _ _ _ (by show (s 3 - (i + 1)).toNat < (s 3 - i).toNat; omega) ⟨rfl, rfl, by show 0 ≤ i + 1 ∧ i + 1 ≤ s 3; omega, ?_, by show _ = [aR 101, aR x, aI x2, aR (nulR A.R i), aI (i + 1)]; rw [nulR_1 (by omega)]⟩
        show Fst (rfP s f n) (rfK s x2) 0 (i + 1) i
        first | exact hF.skip (fun hp => by unfold rfP at hp; omega) | exact hF.take (Int.le_refl 0) (by omega) (by unfold rfP; omega) (Or.inl rfl) | exact hF.take (Int.le_refl 0) (by omega) (by unfold rfP; omega) (Or.inr (by unfold rfK; (repeat' split) <;> omega)) | exact hF.keep (by omega) (by unfold rfK; (repeat' split) <;> omega)
      · refine ok_goto (pc' := 88) i199_29 rfl <| ok_iinc (pc' := 91) (v := (i + 1)) (ls' := [aR 101, aR x, aI x2, aR 0, aI (i + 1)]) i199_88 rfl rfl rfl rfl <| ok_goto (pc' := 5) i199_91 rfl <| ?_
        refine ih (i + 1, (-1)) _ _ _ (by show (s 3 - (i + 1)).toNat < (s 3 - i).toNat; omega) ⟨rfl, rfl, by show 0 ≤ i + 1 ∧ i + 1 ≤ s 3; omega, ?_, by show _ = [aR 101, aR x, aI x2, aR (nulR A.R (-1)), aI (i + 1)]; rw [nulR_0]⟩
        show Fst (rfP s f n) (rfK s x2) 0 (i + 1) (-1)
        first | exact hF.skip (fun hp => by unfold rfP at hp; omega) | exact hF.take (Int.le_refl 0) (by omega) (by unfold rfP; omega) (Or.inl rfl) | exact hF.take (Int.le_refl 0) (by omega) (by unfold rfP; omega) (Or.inr (by unfold rfK; (repeat' split) <;> omega)) | exact hF.keep (by omega) (by unfold rfK; (repeat' split) <;> omega)
  · rw [nulR_1 hb]
    have ha : 0 ≤ a ∧ a < s 3 := by have := hF.rg (by omega); omega
    refine ok_iload (pc' := 7) i199_5 rfl rfl <| ok_aloadn (pc' := 8) i199_7 rfl rfl <| ok_getfi (v := (s 3)) (pc' := 11) i199_8 o199 gi17_97 (hY.gr.ky) ((Yd.n3 hY)) rfl <| ?_
    refine ok_cge (pc1 := 94) (pc2 := 14) i199_11 (by omega) rfl rfl (fun h1 => ?_) (fun h1 => ?_)
    · refine ok_aloadn (pc' := 95) i199_94 rfl rfl <| ok_aret i199_95 (by rw [rt199]) <| ?_
      exact ⟨rfl, rfl, a, by rw [show s 3 = i by omega]; exact hF, by rw [nulR_1 hb]⟩
    · refine ok_aloadn (pc' := 15) i199_14 rfl rfl <| ok_aloadn (pc' := 16) i199_15 rfl rfl <| ok_getfr (r := 107) (pc' := 19) i199_16 o199 gr17_34 (hY.gr.ky) (hY.gr.r4) rfl <| ok_iload (pc' := 21) i199_19 rfl rfl <| ok_aaload (r := (A.R i)) (pc' := 22) i199_21 (hY.gr.k7) (by decide) (hY.gr.l7) (by omega) ((hY.gr.rr i (by omega) (by omega)).1) rfl <| ok_aloadn (pc' := 23) i199_22 rfl rfl <| ?_
      refine ok_cc i199_23 rfl (cl_v o199 m17_186 na200 rfl rfl (bt rfl) (bt rfl) rfl (by rw [hY.gr.ky, o200])) ln200 (pd200 (aR 101) (aR (A.R i)) (aR x)) <| (Ok.deep (t200 hY hV ⟨by omega, by omega⟩ hA hW) (by omega)).mono (fun o9 g9 M9 p9 => ?_)
      obtain ⟨rfl, e2, e3⟩ := p9
      rw [e2, e3]
      have z2 : -1 ≤ (lfY s f n i) ∧ (lfY s f n i) ≤ 200 := lfY_rg hV hW ⟨by omega, by omega⟩
      refine kt_v (pc' := 26) rfl <| ?_
      refine ok_zge (pc1 := 32) (pc2 := 29) i199_26 (by omega) rfl rfl (fun h3 => ?_) (fun h3 => ?_)
      · refine ok_aloadn (pc' := 33) i199_32 rfl rfl <| ok_ifnull0 (pc1 := 36) i199_33 (Or.inl (Nat.le_trans (by decide) (hY.gr.rr a (by omega) (by omega)).2.1.1)) (by decide) rfl <| ok_iloadn (pc' := 37) i199_36 rfl rfl <| ok_iconst (pc' := 38) i199_37 rfl <| ?_
        refine ok_cne (pc1 := 58) (pc2 := 41) i199_38 (by omega) rfl rfl (fun h4 => ?_) (fun h4 => ?_)
        · refine ok_iloadn (pc' := 59) i199_58 rfl rfl <| ok_iconst (pc' := 60) i199_59 rfl <| ?_
          refine ok_cne (pc1 := 88) (pc2 := 63) i199_60 (by omega) rfl rfl (fun h5 => ?_) (fun h5 => ?_)
          · refine ok_iinc (pc' := 91) (v := (i + 1)) (ls' := [aR 101, aR x, aI x2, aR (A.R a), aI (i + 1)]) i199_88 rfl rfl rfl rfl <| ok_goto (pc' := 5) i199_91 rfl <| ?_
            refine ih (i + 1, a) _ _ _ (by show (s 3 - (i + 1)).toNat < (s 3 - i).toNat; omega) ⟨rfl, rfl, by show 0 ≤ i + 1 ∧ i + 1 ≤ s 3; omega, ?_, by show _ = [aR 101, aR x, aI x2, aR (nulR A.R a), aI (i + 1)]; rw [nulR_1 (by omega)]⟩
            show Fst (rfP s f n) (rfK s x2) 0 (i + 1) a
            first | exact hF.skip (fun hp => by unfold rfP at hp; omega) | exact hF.take (Int.le_refl 0) (by omega) (by unfold rfP; omega) (Or.inl rfl) | exact hF.take (Int.le_refl 0) (by omega) (by unfold rfP; omega) (Or.inr (by unfold rfK; (repeat' split) <;> omega)) | exact hF.keep (by omega) (by unfold rfK; (repeat' split) <;> omega)
          · refine ok_aloadn (pc' := 64) i199_63 rfl rfl <| ok_getfr (r := 107) (pc' := 67) i199_64 o199 gr17_34 (hY.gr.ky) (hY.gr.r4) rfl <| ok_iload (pc' := 69) i199_67 rfl rfl <| ok_aaload (r := (A.R i)) (pc' := 70) i199_69 (hY.gr.k7) (by decide) (hY.gr.l7) (by omega) ((hY.gr.rr i (by omega) (by omega)).1) rfl <| ?_
            have z6 : 0 ≤ s (94 + i) ∧ s (94 + i) ≤ 200 := V_d1 hV (by omega) (by omega)
            refine ok_getfi (v := (s (94 + i))) (pc' := 73) i199_70 o199 gi17_154 ((hY.gr.rr i (by omega) (by omega)).2.2) ((Yd.r2 hY (k := i) (by omega) (by omega))) rfl <| ok_aloadn (pc' := 74) i199_73 rfl rfl <| ?_
            have z7 : 0 ≤ s (94 + a) ∧ s (94 + a) ≤ 200 := V_d1 hV (by omega) (by omega)
            refine ok_getfi (v := (s (94 + a))) (pc' := 77) i199_74 o199 gi17_154 ((hY.gr.rr a (by omega) (by omega)).2.2) ((Yd.r2 hY (k := a) (by omega) (by omega))) rfl <| ?_
            refine ok_cle (pc1 := 88) (pc2 := 80) i199_77 (by omega) rfl rfl (fun h8 => ?_) (fun h8 => ?_)
            · refine ok_iinc (pc' := 91) (v := (i + 1)) (ls' := [aR 101, aR x, aI x2, aR (A.R a), aI (i + 1)]) i199_88 rfl rfl rfl rfl <| ok_goto (pc' := 5) i199_91 rfl <| ?_
              refine ih (i + 1, a) _ _ _ (by show (s 3 - (i + 1)).toNat < (s 3 - i).toNat; omega) ⟨rfl, rfl, by show 0 ≤ i + 1 ∧ i + 1 ≤ s 3; omega, ?_, by show _ = [aR 101, aR x, aI x2, aR (nulR A.R a), aI (i + 1)]; rw [nulR_1 (by omega)]⟩
              show Fst (rfP s f n) (rfK s x2) 0 (i + 1) a
              first | exact hF.skip (fun hp => by unfold rfP at hp; omega) | exact hF.take (Int.le_refl 0) (by omega) (by unfold rfP; omega) (Or.inl rfl) | exact hF.take (Int.le_refl 0) (by omega) (by unfold rfP; omega) (Or.inr (by unfold rfK; (repeat' split) <;> omega)) | exact hF.keep (by omega) (by unfold rfK; (repeat' split) <;> omega)
            · refine ok_aloadn (pc' := 81) i199_80 rfl rfl <| ok_getfr (r := 107) (pc' := 84) i199_81 o199 gr17_34 (hY.gr.ky) (hY.gr.r4) rfl <| ok_iload (pc' := 86) i199_84 rfl rfl <| ok_aaload (r := (A.R i)) (pc' := 87) i199_86 (hY.gr.k7) (by decide) (hY.gr.l7) (by omega) ((hY.gr.rr i (by omega) (by omega)).1) rfl <| ok_astoren (pc' := 88) (ls' := [aR 101, aR x, aI x2, aR (A.R i), aI i]) i199_87 (bt rfl) rfl rfl <| ok_iinc (pc' := 91) (v := (i + 1)) (ls' := [aR 101, aR x, aI x2, aR (A.R i), aI (i + 1)]) i199_88 rfl rfl rfl rfl <| ok_goto (pc' := 5) i199_91 rfl <| ?_
              refine ih (i + 1, i) _ _ _ (by show (s 3 - (i + 1)).toNat < (s 3 - i).toNat; omega) ⟨rfl, rfl, by show 0 ≤ i + 1 ∧ i + 1 ≤ s 3; omega, ?_, by show _ = [aR 101, aR x, aI x2, aR (nulR A.R i), aI (i + 1)]; rw [nulR_1 (by omega)]⟩
              show Fst (rfP s f n) (rfK s x2) 0 (i + 1) i
              first | exact hF.skip (fun hp => by unfold rfP at hp; omega) | exact hF.take (Int.le_refl 0) (by omega) (by unfold rfP; omega) (Or.inl rfl) | exact hF.take (Int.le_refl 0) (by omega) (by unfold rfP; omega) (Or.inr (by unfold rfK; (repeat' split) <;> omega)) | exact hF.keep (by omega) (by unfold rfK; (repeat' split) <;> omega)
        · refine ok_aloadn (pc' := 42) i199_41 rfl rfl <| ok_getfr (r := 107) (pc' := 45) i199_42 o199 gr17_34 (hY.gr.ky) (hY.gr.r4) rfl <| ok_iload (pc' := 47) i199_45 rfl rfl <| ok_aaload (r := (A.R i)) (pc' := 48) i199_47 (hY.gr.k7) (by decide) (hY.gr.l7) (by omega) ((hY.gr.rr i (by omega) (by omega)).1) rfl <| ?_
          have z9 : 0 ≤ s (94 + i) ∧ s (94 + i) ≤ 200 := V_d1 hV (by omega) (by omega)
          refine ok_getfi (v := (s (94 + i))) (pc' := 51) i199_48 o199 gi17_154 ((hY.gr.rr i (by omega) (by omega)).2.2) ((Yd.r2 hY (k := i) (by omega) (by omega))) rfl <| ok_aloadn (pc' := 52) i199_51 rfl rfl <| ?_
          have z10 : 0 ≤ s (94 + a) ∧ s (94 + a) ≤ 200 := V_d1 hV (by omega) (by omega)
          refine ok_getfi (v := (s (94 + a))) (pc' := 55) i199_52 o199 gi17_154 ((hY.gr.rr a (by omega) (by omega)).2.2) ((Yd.r2 hY (k := a) (by omega) (by omega))) rfl <| ?_
          refine ok_clt (pc1 := 80) (pc2 := 58) i199_55 (by omega) rfl rfl (fun h11 => ?_) (fun h11 => ?_)
          · refine ok_aloadn (pc' := 81) i199_80 rfl rfl <| ok_getfr (r := 107) (pc' := 84) i199_81 o199 gr17_34 (hY.gr.ky) (hY.gr.r4) rfl <| ok_iload (pc' := 86) i199_84 rfl rfl <| ok_aaload (r := (A.R i)) (pc' := 87) i199_86 (hY.gr.k7) (by decide) (hY.gr.l7) (by omega) ((hY.gr.rr i (by omega) (by omega)).1) rfl <| ok_astoren (pc' := 88) (ls' := [aR 101, aR x, aI x2, aR (A.R i), aI i]) i199_87 (bt rfl) rfl rfl <| ok_iinc (pc' := 91) (v := (i + 1)) (ls' := [aR 101, aR x, aI x2, aR (A.R i), aI (i + 1)]) i199_88 rfl rfl rfl rfl <| ok_goto (pc' := 5) i199_91 rfl <| ?_
            refine ih (i + 1, i) _ _ _ (by show (s 3 - (i + 1)).toNat < (s 3 - i).toNat; omega) ⟨rfl, rfl, by show 0 ≤ i + 1 ∧ i + 1 ≤ s 3; omega, ?_, by show _ = [aR 101, aR x, aI x2, aR (nulR A.R i), aI (i + 1)]; rw [nulR_1 (by omega)]⟩
            show Fst (rfP s f n) (rfK s x2) 0 (i + 1) i
            first | exact hF.skip (fun hp => by unfold rfP at hp; omega) | exact hF.take (Int.le_refl 0) (by omega) (by unfold rfP; omega) (Or.inl rfl) | exact hF.take (Int.le_refl 0) (by omega) (by unfold rfP; omega) (Or.inr (by unfold rfK; (repeat' split) <;> omega)) | exact hF.keep (by omega) (by unfold rfK; (repeat' split) <;> omega)
          · refine ok_iloadn (pc' := 59) i199_58 rfl rfl <| ok_iconst (pc' := 60) i199_59 rfl <| ?_
            refine ok_cne (pc1 := 88) (pc2 := 63) i199_60 (by omega) rfl rfl (fun h12 => ?_) (fun h9 => by exfalso; omega)
            refine ok_iinc (pc' := 91) (v := (i + 1)) (ls' := [aR 101, aR x, aI x2, aR (A.R a), aI (i + 1)]) i199_88 rfl rfl rfl rfl <| ok_goto (pc' := 5) i199_91 rfl <| ?_
            refine ih (i + 1, a) _ _ _ (by show (s 3 - (i + 1)).toNat < (s 3 - i).toNat; omega) ⟨rfl, rfl, by show 0 ≤ i + 1 ∧ i + 1 ≤ s 3; omega, ?_, by show _ = [aR 101, aR x, aI x2, aR (nulR A.R a), aI (i + 1)]; rw [nulR_1 (by omega)]⟩
            show Fst (rfP s f n) (rfK s x2) 0 (i + 1) a
            first | exact hF.skip (fun hp => by unfold rfP at hp; omega) | exact hF.take (Int.le_refl 0) (by omega) (by unfold rfP; omega) (Or.inl rfl) | exact hF.take (Int.le_refl 0) (by omega) (by unfold rfP; omega) (Or.inr (by unfold rfK; (repeat' split) <;> omega)) | exact hF.keep (by omega) (by unfold rfK; (repeat' split) <;> omega)
      · refine ok_goto (pc' := 88) i199_29 rfl <| ok_iinc (pc' := 91) (v := (i + 1)) (ls' := [aR 101, aR x, aI x2, aR (A.R a), aI (i + 1)]) i199_88 rfl rfl rfl rfl <| ok_goto (pc' := 5) i199_91 rfl <| ?_
        refine ih (i + 1, a) _ _ _ (by show (s 3 - (i + 1)).toNat < (s 3 - i).toNat; omega) ⟨rfl, rfl, by show 0 ≤ i + 1 ∧ i + 1 ≤ s 3; omega, ?_, by show _ = [aR 101, aR x, aI x2, aR (nulR A.R a), aI (i + 1)]; rw [nulR_1 (by omega)]⟩
        show Fst (rfP s f n) (rfK s x2) 0 (i + 1) a
        first | exact hF.skip (fun hp => by unfold rfP at hp; omega) | exact hF.take (Int.le_refl 0) (by omega) (by unfold rfP; omega) (Or.inl rfl) | exact hF.take (Int.le_refl 0) (by omega) (by unfold rfP; omega) (Or.inr (by unfold rfK; (repeat' split) <;> omega)) | exact hF.keep (by omega) (by unfold rfK; (repeat' split) <;> omega)
