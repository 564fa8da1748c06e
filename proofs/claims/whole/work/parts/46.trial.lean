/-! TRIALS: the class (by program, wip/gen) -/
def lossS (q s : Int → Int) (p : Int) : Int := endS q (fulS q s p) 9 - s 9
def addN (q s : Int → Int) (k : Int) (n : Nat) : Int → Int := itv (fun _ t => addT t k (q (2 + k))) s 0 n
def needF (q s : Int → Int) (k : Int) (n : Int) (_ : Int) : Int ⊕ Int := if r20 (fillS q (addN q s k n.toNat) 1) = 0 then .inr n else .inl 0
def needS (q s : Int → Int) (k : Int) : Int := itr (itx (needF q s k) 0 0 13) (fun _ => -1)
/-- so many rounds -/
def rndN (q s : Int → Int) (k : Int) : Nat → Int → Int
  | 0 => fillS q s 1
  | n + 1 => fillS q (endS q (addT (rndN q s k n) k (q (2 + k)))) 1
def rndF (q s : Int → Int) (k : Int) (n : Int) (_ : Int) : Int ⊕ Int := if r20 (rndN q s k n.toNat) = 0 then .inr n else .inl 0
def rndS (q s : Int → Int) (k : Int) : Int := itr (itx (rndF q s k) 0 0 41) (fun _ => -1)
theorem V_buy {b : Int} {q t : Int → Int} (hV : Val b q t) {k : Int} (hk : 0 ≤ k ∧ k < q 0) (h3 : t 3 < 80) {v : Int} : Val b q (addT (upI t 6 v) k (q (2 + k))) := V_add (V_acc hV (by omega)) (by rw [upI_ne (by omega)]; exact h3) hk (Q_2 (V_q hV) hk.1 hk.2)
theorem buy_3 {t : Int → Int} {k v l : Int} : addT (upI t 6 v) k l 3 = t 3 + 1 := by
  unfold addT
  rw [upI_eq, upI_ne (by omega)]
theorem gr7_22 : am_gfr 7 22 7 2 = true := by decide +kernel
theorem o53 : am_oc 53 = 7 := by decide +kernel
theorem gr7_15 : am_gfr 7 15 7 1 = true := by decide +kernel
theorem m7_34 : am_mlk 7 34 0 17 = true := by decide +kernel
theorem na17 : am_na 17 = 1 := by decide +kernel
theorem nl17 : am_nL 17 = 3 := by decide +kernel
theorem pd17 : ∀ a0 a1 : AV, am_pad 17 [a0, a1] = [a0, a1, aU] := by intros; unfold am_pad; rw [nl17]; rfl
theorem ln17 : 2 ≤ am_nL 17 := by rw [nl17]; decide
theorem gr7_30 : am_gfr 7 30 7 3 = true := by decide +kernel
theorem m7_38 : am_mlk 7 38 0 41 = true := by decide +kernel
theorem na41 : am_na 41 = 1 := by decide +kernel
theorem nl41 : am_nL 41 = 2 := by decide +kernel
theorem pd41 : ∀ a0 a1 : AV, am_pad 41 [a0, a1] = [a0, a1] := by intros; unfold am_pad; rw [nl41]; rfl
theorem ln41 : 2 ≤ am_nL 41 := by rw [nl41]; decide
theorem rt53 : am_rt 53 = some .int := by decide +kernel
theorem o54 : am_oc 54 = 7 := by decide +kernel
theorem m7_42 : am_mlk 7 42 0 48 = true := by decide +kernel
theorem na48 : am_na 48 = 0 := by decide +kernel
theorem nl48 : am_nL 48 = 3 := by decide +kernel
theorem pd48 : ∀ a0 : AV, am_pad 48 [a0] = [a0, aU, aU] := by intros; unfold am_pad; rw [nl48]; rfl
theorem ln48 : 1 ≤ am_nL 48 := by rw [nl48]; decide
theorem gr7_46 : am_gfr 7 46 5 9 = true := by decide +kernel
theorem rt54 : am_rt 54 = some .int := by decide +kernel
theorem o55 : am_oc 55 = 7 := by decide +kernel
theorem gr7_50 : am_gfr 7 50 5 5 = true := by decide +kernel
theorem rt55 : am_rt 55 = some .int := by decide +kernel
theorem o56 : am_oc 56 = 7 := by decide +kernel
theorem m7_54 : am_mlk 7 54 0 50 = true := by decide +kernel
theorem na50 : am_na 50 = 1 := by decide +kernel
theorem nl50 : am_nL 50 = 3 := by decide +kernel
theorem pd50 : ∀ a0 a1 : AV, am_pad 50 [a0, a1] = [a0, a1, aU] := by intros; unfold am_pad; rw [nl50]; rfl
theorem ln50 : 2 ≤ am_nL 50 := by rw [nl50]; decide
theorem m7_57 : am_mlk 7 57 0 46 = true := by decide +kernel
theorem m7_60 : am_mlk 7 60 0 20 = true := by decide +kernel
theorem na20 : am_na 20 = 0 := by decide +kernel
theorem nl20 : am_nL 20 = 3 := by decide +kernel
theorem pd20 : ∀ a0 : AV, am_pad 20 [a0] = [a0, aU, aU] := by intros; unfold am_pad; rw [nl20]; rfl
theorem ln20 : 1 ≤ am_nL 20 := by rw [nl20]; decide
theorem rt56 : am_rt 56 = some .int := by decide +kernel
theorem t53 {g : AG} {M : AM} {T P A B W : Nat} {q s : Int → Int} {b : Int} {x1 : Int} (hST : ShTrial g T P A B W) (hSW : ShWorks g W P B) (hSP : ShPlan g P) (hSB : ShState g B) (hSA : ShState g A) (hRP : RepP M P q) (hRA : RepS M A s) (hQ : ValQ q) (hV : Val b q s) (hPB : P + 11 ≤ B ∨ B + 24 ≤ P) (hAB : A + 24 ≤ B ∨ B + 24 ≤ A) (h1 : 0 ≤ x1 ∧ x1 < 4) (hb : b + 7 ≤ 1000000) :
    Ok 5 53 0 [aR T, aI x1] [] g M (Rt (some (aI (fulN q s x1))) g (fun M9 => Wr B 24 M M9)) := by
  have yq0 : 0 ≤ q 0 ∧ q 0 ≤ 4 := Q_0 hQ
  have yq1 : 0 ≤ q 1 ∧ q 1 ≤ 6 := Q_1 hQ
  have ys3 : 0 ≤ s 3 ∧ s 3 ≤ 80 := V_3 hV
  have ys4 : 0 ≤ s 4 ∧ s 4 ≤ 16 := V_4 hV
  refine ok_aloadn (pc' := 1) i53_0 rfl rfl <| ok_getfr (r := B) (pc' := 4) i53_1 o53 gr7_22 (ShTrial_k0 hST) (ShTrial_r2 hST) rfl <| ok_aloadn (pc' := 5) i53_4 rfl rfl <| ok_getfr (r := A) (pc' := 8) i53_5 o53 gr7_15 (ShTrial_k0 hST) (ShTrial_r1 hST) rfl <| ?_
  refine ok_cn0 (pc' := 11) (d0 := 0) i53_8 rfl (cl_v o53 m7_34 na17 rfl rfl (bt rfl) (bt rfl) rfl (by rw [ShState_k0 hSB, o17])) ln17 (pd17 (aR B) (aR A)) (by omega) (t17 hSB hSA hRA hV hQ (by omega)) rfl (fun M1 p2 => ?_)
  have hFM1P : RepP M1 P q := RepP.fr hRP (fun a h1 h2 => p2.2 a (by omega))
  have hFM1A : RepS M1 A s := RepS.fr hRA (fun a h1 h2 => p2.2 a (by omega))
  refine ok_aloadn (pc' := 12) i53_11 rfl rfl <| ok_getfr (r := W) (pc' := 15) i53_12 o53 gr7_30 (ShTrial_k0 hST) (ShTrial_r3 hST) rfl <| ok_iloadn (pc' := 16) i53_15 rfl rfl <| ?_
  refine ok_cn (pc' := 19) (d0 := 4) i53_16 rfl (cl_v o53 m7_38 na41 rfl rfl (bt rfl) (bt rfl) rfl (by rw [ShWorks_k0 hSW, o41])) ln41 (pd41 (aR W) (aI x1)) (by omega) (t41 (x1 := x1) hSW hSP hSB hFM1P p2.1 hQ hV (by omega) (by omega) (by omega)) rfl (fun M3 p4 => ?_)
  obtain ⟨s3, hs3⟩ : ∃ u9 : Int → Int, u9 = (fulS q s x1) := ⟨_, rfl⟩
  rw [← hs3] at p4
  have hRM3 : RepS M3 B s3 := p4.1
  have hPM3P : RepP M3 P q := RepP.fr hFM1P (fun a h1 h2 => p4.2 a (by omega))
  have hSM3A : RepS M3 A s := RepS.fr hFM1A (fun a h1 h2 => p4.2 a (by omega))
  have hVM3 : Val (b) q s3 := by rw [hs3]; exact (ful_aft hV _).1
  have z1 : 0 ≤ s3 3 ∧ s3 3 ≤ 80 := V_3 hVM3
  have z2 : 0 ≤ s3 4 ∧ s3 4 ≤ 16 := V_4 hVM3
  refine ok_ireti i53_19 rt53 <| ?_
  exact ⟨rfl, rfl, (Wr.trans p2.2 p4.2)⟩
theorem t54 {g : AG} {M : AM} {T P A B W : Nat} {q s : Int → Int} {b : Int} {x1 : Int} (hST : ShTrial g T P A B W) (hSW : ShWorks g W P B) (hSP : ShPlan g P) (hSB : ShState g B) (hSA : ShState g A) (hRP : RepP M P q) (hRA : RepS M A s) (hQ : ValQ q) (hV : Val b q s) (hPB : P + 11 ≤ B ∨ B + 24 ≤ P) (hAB : A + 24 ≤ B ∨ B + 24 ≤ A) (h1 : 0 ≤ x1 ∧ x1 < 4) (hb : b + 7 ≤ 1000000) :
    Ok 5 54 0 [aR T, aI x1] [] g M (Rt (some (aI (lossS q s x1))) g (fun M9 => Wr B 24 M M9)) := by
  have yq0 : 0 ≤ q 0 ∧ q 0 ≤ 4 := Q_0 hQ
  have yq1 : 0 ≤ q 1 ∧ q 1 ≤ 6 := Q_1 hQ
  have ys3 : 0 ≤ s 3 ∧ s 3 ≤ 80 := V_3 hV
  have ys4 : 0 ≤ s 4 ∧ s 4 ≤ 16 := V_4 hV
  refine ok_aloadn (pc' := 1) i54_0 rfl rfl <| ok_getfr (r := B) (pc' := 4) i54_1 o54 gr7_22 (ShTrial_k0 hST) (ShTrial_r2 hST) rfl <| ok_aloadn (pc' := 5) i54_4 rfl rfl <| ok_getfr (r := A) (pc' := 8) i54_5 o54 gr7_15 (ShTrial_k0 hST) (ShTrial_r1 hST) rfl <| ?_
  refine ok_cn0 (pc' := 11) (d0 := 0) i54_8 rfl (cl_v o54 m7_34 na17 rfl rfl (bt rfl) (bt rfl) rfl (by rw [ShState_k0 hSB, o17])) ln17 (pd17 (aR B) (aR A)) (by omega) (t17 hSB hSA hRA hV hQ (by omega)) rfl (fun M1 p2 => ?_)
  have hFM1P : RepP M1 P q := RepP.fr hRP (fun a h1 h2 => p2.2 a (by omega))
  have hFM1A : RepS M1 A s := RepS.fr hRA (fun a h1 h2 => p2.2 a (by omega))
  refine ok_aloadn (pc' := 12) i54_11 rfl rfl <| ok_getfr (r := W) (pc' := 15) i54_12 o54 gr7_30 (ShTrial_k0 hST) (ShTrial_r3 hST) rfl <| ok_iloadn (pc' := 16) i54_15 rfl rfl <| ?_
  refine ok_cn (pc' := 19) (d0 := 4) i54_16 rfl (cl_v o54 m7_38 na41 rfl rfl (bt rfl) (bt rfl) rfl (by rw [ShWorks_k0 hSW, o41])) ln41 (pd41 (aR W) (aI x1)) (by omega) (t41 (x1 := x1) hSW hSP hSB hFM1P p2.1 hQ hV (by omega) (by omega) (by omega)) rfl (fun M3 p4 => ?_)
  obtain ⟨s3, hs3⟩ : ∃ u9 : Int → Int, u9 = (fulS q s x1) := ⟨_, rfl⟩
  rw [← hs3] at p4
  have hRM3 : RepS M3 B s3 := p4.1
  have hPM3P : RepP M3 P q := RepP.fr hFM1P (fun a h1 h2 => p4.2 a (by omega))
  have hSM3A : RepS M3 A s := RepS.fr hFM1A (fun a h1 h2 => p4.2 a (by omega))
  have hVM3 : Val (b) q s3 := by rw [hs3]; exact (ful_aft hV _).1
  have z1 : 0 ≤ s3 3 ∧ s3 3 ≤ 80 := V_3 hVM3
  have z2 : 0 ≤ s3 4 ∧ s3 4 ≤ 16 := V_4 hVM3
  refine ok_pop (pc' := 20) i54_19 rfl rfl <| ok_aloadn (pc' := 21) i54_20 rfl rfl <| ok_getfr (r := W) (pc' := 24) i54_21 o54 gr7_30 (ShTrial_k0 hST) (ShTrial_r3 hST) rfl <| ?_
  refine ok_cn (pc' := 27) (d0 := 2) i54_24 rfl (cl_v o54 m7_42 na48 rfl rfl (bt rfl) (bt rfl) rfl (by rw [ShWorks_k0 hSW, o48])) ln48 (pd48 (aR W)) (by omega) (t48 hSW hSP hSB hPM3P hRM3 hQ hVM3 (by omega)) rfl (fun M5 p6 => ?_)
  obtain ⟨s5, hs5⟩ : ∃ u9 : Int → Int, u9 = (endS q s3) := ⟨_, rfl⟩
  rw [← hs5] at p6
  have hRM5 : RepS M5 B s5 := p6.1
  have hPM5P : RepP M5 P q := RepP.fr hPM3P (fun a h1 h2 => p6.2 a (by omega))
  have hSM5A : RepS M5 A s := RepS.fr hSM3A (fun a h1 h2 => p6.2 a (by omega))
  have hVM5 : Val (b + 1) q s5 := by rw [hs5]; exact (end_aft hVM3 (by omega)).1
  have z3 : 0 ≤ s5 3 ∧ s5 3 ≤ 80 := V_3 hVM5
  have z4 : 0 ≤ s5 4 ∧ s5 4 ≤ 16 := V_4 hVM5
  refine ok_pop (pc' := 28) i54_27 rfl rfl <| ok_aloadn (pc' := 29) i54_28 rfl rfl <| ok_getfr (r := B) (pc' := 32) i54_29 o54 gr7_22 (ShTrial_k0 hST) (ShTrial_r2 hST) rfl <| ok_getfr (r := (B + 23)) (pc' := 35) i54_32 o54 gr7_46 (ShState_k0 hSB) (ShState_r9 hSB) rfl <| ok_iconst (pc' := 36) i54_35 rfl <| ok_iaload (v := (s5 9)) (pc' := 37) i54_36 (ShState_k23 hSB) (by decide) (ShState_l23 hSB) (by decide) (RepS_23_3 hRM5) rfl <| ok_aloadn (pc' := 38) i54_37 rfl rfl <| ok_getfr (r := A) (pc' := 41) i54_38 o54 gr7_15 (ShTrial_k0 hST) (ShTrial_r1 hST) rfl <| ?_
  refine ok_getfr (r := (A + 23)) (pc' := 44) i54_41 o54 gr7_46 (ShState_k0 hSA) (ShState_r9 hSA) rfl <| ok_iconst (pc' := 45) i54_44 rfl <| ok_iaload (v := (s 9)) (pc' := 46) i54_45 (ShState_k23 hSA) (by decide) (ShState_l23 hSA) (by decide) (RepS_23_3 hSM5A) rfl <| ok_isub (v := ((s5 9) - (s 9))) (pc' := 47) i54_46 rfl rfl <| ok_ireti i54_47 rt54 <| ?_
  have e : lossS q s x1 = ((s5 9) - (s 9)) := by rw [hs5, hs3]; rfl
  exact ⟨by rw [e], rfl, (Wr.trans (Wr.trans p2.2 p4.2) p6.2)⟩
theorem t55 {g : AG} {M : AM} {T P A B W : Nat} {q s : Int → Int} {b : Int} {x1 x2 : Int} (hST : ShTrial g T P A B W) (hSW : ShWorks g W P B) (hSP : ShPlan g P) (hSB : ShState g B) (hSA : ShState g A) (hRP : RepP M P q) (hRA : RepS M A s) (hQ : ValQ q) (hV : Val b q s) (hPB : P + 11 ≤ B ∨ B + 24 ≤ P) (hAB : A + 24 ≤ B ∨ B + 24 ≤ A) (h1 : 0 ≤ x1 ∧ x1 < 4) (hb : b + 7 ≤ 1000000) (h2 : 0 ≤ x2 ∧ x2 < s 4) :
    Ok 5 55 0 [aR T, aI x1, aI x2] [] g M (Rt (some (aI (fulS q s x1 ((414 + (8 * x2)) + 4)))) g (fun M9 => Wr B 24 M M9)) := by
  have yq0 : 0 ≤ q 0 ∧ q 0 ≤ 4 := Q_0 hQ
  have yq1 : 0 ≤ q 1 ∧ q 1 ≤ 6 := Q_1 hQ
  have ys3 : 0 ≤ s 3 ∧ s 3 ≤ 80 := V_3 hV
  have ys4 : 0 ≤ s 4 ∧ s 4 ≤ 16 := V_4 hV
  refine ok_aloadn (pc' := 1) i55_0 rfl rfl <| ok_getfr (r := B) (pc' := 4) i55_1 o55 gr7_22 (ShTrial_k0 hST) (ShTrial_r2 hST) rfl <| ok_aloadn (pc' := 5) i55_4 rfl rfl <| ok_getfr (r := A) (pc' := 8) i55_5 o55 gr7_15 (ShTrial_k0 hST) (ShTrial_r1 hST) rfl <| ?_
  refine ok_cn0 (pc' := 11) (d0 := 0) i55_8 rfl (cl_v o55 m7_34 na17 rfl rfl (bt rfl) (bt rfl) rfl (by rw [ShState_k0 hSB, o17])) ln17 (pd17 (aR B) (aR A)) (by omega) (t17 hSB hSA hRA hV hQ (by omega)) rfl (fun M1 p2 => ?_)
  have hFM1P : RepP M1 P q := RepP.fr hRP (fun a h1 h2 => p2.2 a (by omega))
  have hFM1A : RepS M1 A s := RepS.fr hRA (fun a h1 h2 => p2.2 a (by omega))
  refine ok_aloadn (pc' := 12) i55_11 rfl rfl <| ok_getfr (r := W) (pc' := 15) i55_12 o55 gr7_30 (ShTrial_k0 hST) (ShTrial_r3 hST) rfl <| ok_iloadn (pc' := 16) i55_15 rfl rfl <| ?_
  refine ok_cn (pc' := 19) (d0 := 4) i55_16 rfl (cl_v o55 m7_38 na41 rfl rfl (bt rfl) (bt rfl) rfl (by rw [ShWorks_k0 hSW, o41])) ln41 (pd41 (aR W) (aI x1)) (by omega) (t41 (x1 := x1) hSW hSP hSB hFM1P p2.1 hQ hV (by omega) (by omega) (by omega)) rfl (fun M3 p4 => ?_)
  obtain ⟨s3, hs3⟩ : ∃ u9 : Int → Int, u9 = (fulS q s x1) := ⟨_, rfl⟩
  rw [← hs3] at p4
  have hRM3 : RepS M3 B s3 := p4.1
  have hPM3P : RepP M3 P q := RepP.fr hFM1P (fun a h1 h2 => p4.2 a (by omega))
  have hSM3A : RepS M3 A s := RepS.fr hFM1A (fun a h1 h2 => p4.2 a (by omega))
  have hVM3 : Val (b) q s3 := by rw [hs3]; exact (ful_aft hV _).1
  have z1 : 0 ≤ s3 3 ∧ s3 3 ≤ 80 := V_3 hVM3
  have z2 : 0 ≤ s3 4 ∧ s3 4 ≤ 16 := V_4 hVM3
  have z3 : s3 4 = s 4 := by rw [hs3]; exact (ful_aft hV _).2.2.1
  refine ok_pop (pc' := 20) i55_19 rfl rfl <| ok_aloadn (pc' := 21) i55_20 rfl rfl <| ok_getfr (r := B) (pc' := 24) i55_21 o55 gr7_22 (ShTrial_k0 hST) (ShTrial_r2 hST) rfl <| ok_getfr (r := (B + 8)) (pc' := 27) i55_24 o55 gr7_50 (ShState_k0 hSB) (ShState_r5 hSB) rfl <| ok_iconst (pc' := 28) i55_27 rfl <| ok_aaload (r := (B + 13)) (pc' := 29) i55_28 (ShState_k8 hSB) (by decide) (ShState_l8 hSB) (by decide) (ShState_e8_4 hSB) rfl <| ok_iloadn (pc' := 30) i55_29 rfl rfl <| ?_
  have z4 : 0 ≤ s3 ((414 + (8 * x2)) + 4) ∧ s3 ((414 + (8 * x2)) + 4) ≤ 9 := V_o4 hVM3 (i := x2) (by omega) (by omega)
  refine ok_iaload (v := (s3 ((414 + (8 * x2)) + 4))) (pc' := 31) i55_30 (ShState_k13 hSB) (by decide) (ShState_l13 hSB) (by omega) (RepS_13 hRM3 (by omega) (by omega)) rfl <| ok_ireti i55_31 rt55 <| ?_
  exact ⟨by rw [hs3], rfl, (Wr.trans p2.2 p4.2)⟩
theorem w56_21 {d : Nat} {Q : AO → AG → AM → Prop} {g : AG} {M : AM} {T W P B A : Nat} {q t0 : Int → Int} {b x1 x2 : Int} (hST : ShTrial g T P A B W) (hSW : ShWorks g W P B) (hSP : ShPlan g P) (hSB : ShState g B) (hSA : ShState g A) (hRP : RepP M P q) (hRB : RepS M B t0) (hV : Val b q t0) (hQ : ValQ q) (hPB : P + 11 ≤ B ∨ B + 24 ≤ P) (h1 : 0 ≤ x1 ∧ x1 < q 0) (h2 : 0 ≤ x2 ∧ x2 ≤ 12) (h3 : t0 3 + 12 ≤ 80) (hb : b + 7 ≤ 1000000)
    (K : ∀ M1 t, RepS M1 B t → Wr B 24 M M1 → Val b q t → Ag t (addN q t0 x1 x2.toNat) → ∀ ls, ls = [aR T, aI x1, aI x2, aI x2] → Ok (d + 3) 56 41 ls [] g M1 Q) :
    Ok (d + 3) 56 21 [aR T, aI x1, aI x2, aI 0] [] g M Q := by
  refine ok_for (lo := 0) (n := x2.toNat) (f := fun _ t => (addT (upI t 6 (t 6 + ((q (2 + x1)) * (q (6 + x1))))) x1 (q (2 + x1)))) (a0 := t0) (fun x3 t ls M9 => RepS M9 B t ∧ Wr B 24 M M9 ∧ Val b q t ∧ Ag t (addN q t0 x1 x3.toNat) ∧ t 3 = t0 3 + x3 ∧ ls = [aR T, aI x1, aI x2, aI x3]) ?_ ?_ _ _ ⟨hRB, Wr.rfl, hV, fun _ _ => rfl, by omega, rfl⟩
  · rintro x3 t ls M9 g1 g2 ⟨hR9, hW9, hV9, hA, e3, rfl⟩ ih
    have g3 : x3 < x2 := by omega
    have hP9 : RepP M9 P q := RepP.fr hRP (fun a h1 h2 => hW9 a (by omega))
    have yt3 := V_3 hV9
    have yt4 := V_4 hV9
    refine ok_iloadn (pc' := 22) i56_21 rfl rfl <| ok_iloadn (pc' := 23) i56_22 rfl rfl <| ?_
    refine ok_cge (pc1 := 41) (pc2 := 26) i56_23 (by omega) rfl rfl (fun h9 => by exfalso; omega) (fun h1 => ?_)
    refine ok_aloadn (pc' := 27) i56_26 rfl rfl <| ok_getfr (r := W) (pc' := 30) i56_27 o56 gr7_30 (ShTrial_k0 hST) (ShTrial_r3 hST) rfl <| ok_iloadn (pc' := 31) i56_30 rfl rfl <| ?_
    refine ok_cn (pc' := 34) (d0 := 1) i56_31 rfl (cl_v o56 m7_54 na50 rfl rfl (bt rfl) (bt rfl) rfl (by rw [ShWorks_k0 hSW, o50])) ln50 (pd50 (aR W) (aI x1)) (by omega) (t50 (x1 := x1) hSW hSP hSB hP9 hR9 hQ hV9 (by omega) (by omega) (by omega)) rfl (fun M2 p3 => ?_)
    obtain ⟨s2, hs2⟩ : ∃ u9 : Int → Int, u9 = (addT (upI t 6 (t 6 + ((q (2 + x1)) * (q (6 + x1))))) x1 (q (2 + x1))) := ⟨_, rfl⟩
    rw [← hs2] at p3
    have hRM2 : RepS M2 B s2 := p3.1
    have hPM2P : RepP M2 P q := RepP.fr hP9 (fun a h1 h2 => p3.2 a (by omega))
    have hVM2 : Val (b) q s2 := by rw [hs2]; exact V_buy hV9 (by omega) (by omega)
    have z61 : 0 ≤ s2 3 ∧ s2 3 ≤ 80 := V_3 hVM2
    have z62 : 0 ≤ s2 4 ∧ s2 4 ≤ 16 := V_4 hVM2
    refine ok_pop (pc' := 35) i56_34 rfl rfl <| ok_iinc (pc' := 38) (v := (x3 + 1)) (ls' := [aR T, aI x1, aI x2, aI (x3 + 1)]) i56_35 rfl rfl rfl rfl <| ok_goto (pc' := 21) i56_38 rfl <| ?_
    refine ih _ _ ⟨by rw [← hs2]; exact hRM2, Wr.trans hW9 p3.2, by rw [← hs2]; exact hVM2, ?_, ?_, rfl⟩
    · rw [show (x3 + 1).toNat = x3.toNat + 1 by omega]
      exact ag_add (ag_up hA _) _ _
    · rw [buy_3]; omega
  · rintro x3 t ls M9 g1 g2 ⟨hR9, hW9, hV9, hA, e3, rfl⟩
    have g3 : x3 = x2 := by omega
    have hP9 : RepP M9 P q := RepP.fr hRP (fun a h1 h2 => hW9 a (by omega))
    have yt3 := V_3 hV9
    have yt4 := V_4 hV9
    refine ok_iloadn (pc' := 22) i56_21 rfl rfl <| ok_iloadn (pc' := 23) i56_22 rfl rfl <| ?_
    refine ok_cge (pc1 := 41) (pc2 := 26) i56_23 (by omega) rfl rfl (fun h1 => ?_) (fun h9 => by exfalso; omega)
    exact K M9 t hR9 hW9 hV9 (by rw [← g3]; exact hA) _ (by rw [g3])
theorem t56 {g : AG} {M : AM} {T P A B W : Nat} {q s : Int → Int} {b : Int} {x1 : Int} (hST : ShTrial g T P A B W) (hSW : ShWorks g W P B) (hSP : ShPlan g P) (hSB : ShState g B) (hSA : ShState g A) (hRP : RepP M P q) (hRA : RepS M A s) (hQ : ValQ q) (hV : Val b q s) (hPB : P + 11 ≤ B ∨ B + 24 ≤ P) (hAB : A + 24 ≤ B ∨ B + 24 ≤ A) (h1 : 0 ≤ x1 ∧ x1 < q 0) (h3 : s 3 ≤ 40) (hb : b + 7 ≤ 1000000) :
    Ok 3 56 0 [aR T, aI x1, aU, aU] [] g M (Rt (some (aI (needS q s x1))) g (fun M9 => Wr B 24 M M9)) := by
  have yq0 : 0 ≤ q 0 ∧ q 0 ≤ 4 := Q_0 hQ
  have yq1 : 0 ≤ q 1 ∧ q 1 ≤ 6 := Q_1 hQ
  have ys3 : 0 ≤ s 3 ∧ s 3 ≤ 80 := V_3 hV
  have ys4 : 0 ≤ s 4 ∧ s 4 ≤ 16 := V_4 hV
  refine ok_iconst (pc' := 1) i56_0 rfl <| ok_istoren (pc' := 2) (ls' := [aR T, aI x1, aI 0, aU]) i56_1 (bt rfl) rfl rfl <| ?_
  refine ok_forx (lo := 0) (n := 13) (f := needF q s x1) (a0 := 0) (fun x2 a ls M9 => Wr B 24 M M9 ∧ ∃ w3 : AV, am_cat w3 = 1 ∧ ls = [aR T, aI x1, aI x2, w3]) ?_ ?_ _ _ ⟨Wr.rfl, aU, rfl, rfl⟩
  · rintro x2 a ls M9 g1 g2 ⟨hW9, w3, hw3, rfl⟩ hr ih
    have g3 : x2 < 13 := by omega
    have hP9 : RepP M9 P q := RepP.fr hRP (fun a h1 h2 => hW9 a (by omega))
    have hA9 : RepS M9 A s := RepS.fr hRA (fun a h1 h2 => hW9 a (by omega))
    refine ok_iloadn (pc' := 3) i56_2 rfl rfl <| ok_bipush (v := 12) (pc' := 5) i56_3 rfl rfl <| ?_
    refine ok_cgt (pc1 := 68) (pc2 := 8) i56_5 (by omega) rfl rfl (fun h9 => by exfalso; omega) (fun h1 => ?_)
    refine ok_aloadn (pc' := 9) i56_8 rfl rfl <| ok_getfr (r := B) (pc' := 12) i56_9 o56 gr7_22 (ShTrial_k0 hST) (ShTrial_r2 hST) rfl <| ok_aloadn (pc' := 13) i56_12 rfl rfl <| ok_getfr (r := A) (pc' := 16) i56_13 o56 gr7_15 (ShTrial_k0 hST) (ShTrial_r1 hST) rfl <| ?_
    refine ok_cn0 (pc' := 19) (d0 := 0) i56_16 rfl (cl_v o56 m7_34 na17 rfl rfl (bt rfl) (bt rfl) rfl (by rw [ShState_k0 hSB, o17])) ln17 (pd17 (aR B) (aR A)) (by omega) (t17 hSB hSA hA9 hV hQ (by omega)) rfl (fun M2 p3 => ?_)
    have hFM2P : RepP M2 P q := RepP.fr hP9 (fun a h1 h2 => p3.2 a (by omega))
    have hFM2A : RepS M2 A s := RepS.fr hA9 (fun a h1 h2 => p3.2 a (by omega))
    refine ok_iconst (pc' := 20) i56_19 rfl <| ok_istoren (pc' := 21) (ls' := [aR T, aI x1, aI x2, aI 0]) i56_20 (bt rfl) rfl rfl <| ?_
    refine w56_21 (b := b) hST hSW hSP hSB hSA hFM2P p3.1 hV hQ (by omega) (by omega) (by omega) (by omega) (by omega) (fun M7 t7 hR7 hW7 hV7 hA7 ls8 hls => ?_)
    subst hls
    have hP7 : RepP M7 P q := RepP.fr hFM2P (fun a h1 h2 => hW7 a (by omega))
    have hA77 : RepS M7 A s := RepS.fr hFM2A (fun a h1 h2 => hW7 a (by omega))
    have y73 := V_3 hV7
    have y74 := V_4 hV7
    refine ok_aloadn (pc' := 42) i56_41 rfl rfl <| ok_getfr (r := W) (pc' := 45) i56_42 o56 gr7_30 (ShTrial_k0 hST) (ShTrial_r3 hST) rfl <| ok_iconst (pc' := 46) i56_45 rfl <| ?_
    refine ok_cn (pc' := 49) (d0 := 2) i56_46 rfl (cl_v o56 m7_57 na46 rfl rfl (bt rfl) (bt rfl) rfl (by rw [ShWorks_k0 hSW, o46])) ln46 (pd46 (aR W) (aI 1)) (by omega) (t46 (x1 := 1) hSW hSP hSB hP7 hR7 hQ hV7 (by omega) (by omega)) rfl (fun M4 p5 => ?_)
    obtain ⟨s4, hs4⟩ : ∃ u9 : Int → Int, u9 = (fillS q t7 1) := ⟨_, rfl⟩
    rw [← hs4] at p5
    have hRM4 : RepS M4 B s4 := p5.1
    have hPM4P : RepP M4 P q := RepP.fr hP7 (fun a h1 h2 => p5.2 a (by omega))
    have hSM4A : RepS M4 A s := RepS.fr hA77 (fun a h1 h2 => p5.2 a (by omega))
    have hVM4 : Val (b) q s4 := by rw [hs4]; exact (fill_aft hV7 1).1
    have z61 : 0 ≤ s4 3 ∧ s4 3 ≤ 80 := V_3 hVM4
    have z62 : 0 ≤ s4 4 ∧ s4 4 ≤ 16 := V_4 hVM4
    refine ok_pop (pc' := 50) i56_49 rfl rfl <| ok_aloadn (pc' := 51) i56_50 rfl rfl <| ok_getfr (r := B) (pc' := 54) i56_51 o56 gr7_22 (ShTrial_k0 hST) (ShTrial_r2 hST) rfl <| ok_cp (pc' := 57) (d0 := 0) i56_54 rfl (cl_v o56 m7_60 na20 rfl rfl (bt rfl) (bt rfl) rfl (by rw [ShState_k0 hSB, o20])) ln20 (pd20 (aR B)) (by omega) (t20 hSB hRM4.toD hVM4 hQ) rfl <| ?_
    have z63 : 0 ≤ (r20 s4) ∧ (r20 s4) ≤ 144 := x20 (M := M4) hSB hRM4.toD hVM4 hQ
    refine ok_zne (pc1 := 62) (pc2 := 60) i56_57 (by omega) rfl rfl (fun h6 => ?_) (fun h6 => ?_)
    · refine ok_iinc (pc' := 65) (v := (x2 + 1)) (ls' := [aR T, aI x1, aI (x2 + 1), aI x2]) i56_62 rfl rfl rfl rfl <| ok_goto (pc' := 2) i56_65 rfl <| ?_
      have h20 : r20 s4 = r20 (fillS q (addN q s x1 x2.toNat) 1) := by rw [hs4]; exact (ag_20 (ag_fill hV7 (fun k hk => (hA7 k hk).symm) 1).1).symm
      have e : needF q s x1 x2 a = .inl 0 := by unfold needF; rw [if_neg (by omega)]
      exact ih _ _ _ e ⟨Wr.trans hW9 (Wr.trans (Wr.trans p3.2 hW7) p5.2), aI _, rfl, rfl⟩
    · refine ok_iloadn (pc' := 61) i56_60 rfl rfl <| ok_ireti i56_61 rt56 <| ?_
      have h20 : r20 s4 = r20 (fillS q (addN q s x1 x2.toNat) 1) := by rw [hs4]; exact (ag_20 (ag_fill hV7 (fun k hk => (hA7 k hk).symm) 1).1).symm
      have e : needF q s x1 x2 a = .inr x2 := by unfold needF; rw [if_pos (by omega)]
      have e9 : needS q s x1 = x2 := by unfold needS; rw [hr _ e]; rfl
      exact ⟨by rw [e9], rfl, Wr.trans hW9 (Wr.trans (Wr.trans p3.2 hW7) p5.2)⟩
  · rintro x2 a ls M9 g1 g2 ⟨hW9, w3, hw3, rfl⟩
    have g3 : x2 = 13 := by omega
    have hP9 : RepP M9 P q := RepP.fr hRP (fun a h1 h2 => hW9 a (by omega))
    have hA9 : RepS M9 A s := RepS.fr hRA (fun a h1 h2 => hW9 a (by omega))
    refine ok_iloadn (pc' := 3) i56_2 rfl rfl <| ok_bipush (v := 12) (pc' := 5) i56_3 rfl rfl <| ?_
    refine ok_cgt (pc1 := 68) (pc2 := 8) i56_5 (by omega) rfl rfl (fun h1 => ?_) (fun h9 => by exfalso; omega)
    refine ok_iconst (pc' := 69) i56_68 rfl <| ok_ireti i56_69 rt56 <| ?_
    have e9 : needS q s x1 = -1 := by unfold needS; rw [g2]; rfl
    exact ⟨by rw [e9], rfl, hW9⟩
