/-! TRIALS: rounds, kinds (by program, wip/gen) -/
def rndP (q s : Int → Int) (k : Int) : Nat → Int → Int
  | 0 => s
  | n + 1 => endS q (addT (rndN q s k n) k (q (2 + k)))
theorem rndN_P {q s : Int → Int} {k : Int} (n : Nat) : rndN q s k n = fillS q (rndP q s k n) 1 := by
  cases n <;> rfl
theorem fulS_1 {q s : Int → Int} : fulS q s 1 = fillS q s 1 := if_neg (by omega)
theorem fulN_1 {q s : Int → Int} : fulN q s 1 = fillN q s 1 := if_neg (by omega)
/-- the rounds: what holds of the states -/
theorem rnd_aft {b : Int} {q s : Int → Int} (hV : Val b q s) {k : Int} (hk : 0 ≤ k ∧ k < q 0) (h3 : s 3 ≤ 40) (hb : b + 50 ≤ 1000000) : ∀ n : Nat, n ≤ 40 → (Val (b + n) q (rndP q s k n) ∧ Out s (rndP q s k n) ∧ rndP q s k n 3 = s 3 + n ∧ rndP q s k n 4 = s 4) ∧ Val (b + n) q (rndN q s k n) ∧ Out s (rndN q s k n) ∧ rndN q s k n 3 = s 3 + n := by
  have hf : ∀ (n : Nat), (Val (b + n) q (rndP q s k n) ∧ Out s (rndP q s k n) ∧ rndP q s k n 3 = s 3 + n ∧ rndP q s k n 4 = s 4) → Val (b + n) q (rndN q s k n) ∧ Out s (rndN q s k n) ∧ rndN q s k n 3 = s 3 + n := by
    intro n h
    rw [rndN_P]
    have h1 := fill_aft (q := q) h.1 1
    exact ⟨h1.1, h.2.1.trans (out_fill h.1 1).1, h1.2.1.trans h.2.2.1⟩
  intro n
  induction n with
  | zero =>
    intro _
    have h0 : Val (b + (0 : Nat)) q (rndP q s k 0) ∧ Out s (rndP q s k 0) ∧ rndP q s k 0 3 = s 3 + (0 : Nat) ∧ rndP q s k 0 4 = s 4 := ⟨by rw [show b + ((0 : Nat) : Int) = b by omega]; exact hV, Out.rfl, by show s 3 = _; omega, rfl⟩
    exact ⟨h0, hf 0 h0⟩
  | succ n ih =>
    intro hn
    obtain ⟨h1, h2, h3', h4⟩ := ih (by omega)
    have hb0 := V_b hV
    have y3 := V_3 h2
    have hq := Q_2 (V_q hV) hk.1 hk.2
    have hA := V_add h2 (k := k) (l := q (2 + k)) (by omega) hk hq
    have hE := end_aft (q := q) hA (by omega)
    have e3 : addT (rndN q s k n) k (q (2 + k)) 3 = rndN q s k n 3 + 1 := upI_eq
    have e4 : rndN q s k n 4 = s 4 := by
      rw [rndN_P]
      exact (fill_aft (q := q) h1.1 1).2.2.1.trans h1.2.2.2
    have h0 : Val (b + (n + 1 : Nat)) q (rndP q s k (n + 1)) ∧ Out s (rndP q s k (n + 1)) ∧ rndP q s k (n + 1) 3 = s 3 + (n + 1 : Nat) ∧ rndP q s k (n + 1) 4 = s 4 := by
      refine ⟨by rw [show b + ((n + 1 : Nat) : Int) = b + n + 1 by omega]; exact hE.1, h3'.trans ((out_add (by omega)).trans hE.2.1), ?_, ?_⟩
      · show endS q _ 3 = _
        rw [hE.2.2.1, e3, h4]
        omega
      · show endS q _ 4 = _
        rw [hE.2.2.2.1, add_lo (by omega) (by omega)]
        exact e4
    exact ⟨h0, hf _ h0⟩
theorem rnd_at {q s : Int → Int} {k : Int} {n : Nat} (hn : n ≤ 40) (h : ∀ j : Nat, j < n → r20 (rndN q s k j) ≠ 0) (h0 : r20 (rndN q s k n) = 0) : rndS q s k = n := by
  have h1 : ∀ j : Nat, j ≤ n → itx (rndF q s k) 0 0 j = .inl 0 := by
    intro j
    induction j with
    | zero => exact fun _ => rfl
    | succ j ih =>
      intro hj
      rw [itx, ih (by omega)]
      show rndF q s k (0 + (j : Int)) 0 = _
      unfold rndF
      rw [show (0 + (j : Int)).toNat = j by omega, if_neg (h j (by omega))]
  have h2 : itx (rndF q s k) 0 0 (n + 1) = .inr (n : Int) := by
    rw [itx, h1 n (Nat.le_refl _)]
    show rndF q s k (0 + (n : Int)) 0 = _
    unfold rndF
    rw [show (0 + (n : Int)).toNat = n by omega, if_pos h0, Int.zero_add]
  unfold rndS
  rw [itx_out h2 41 (by omega)]
  rfl
theorem rnd_no {q s : Int → Int} {k : Int} (h : ∀ j : Nat, j ≤ 40 → r20 (rndN q s k j) ≠ 0) : rndS q s k = -1 := by
  have h1 : ∀ j : Nat, j ≤ 41 → itx (rndF q s k) 0 0 j = .inl 0 := by
    intro j
    induction j with
    | zero => exact fun _ => rfl
    | succ j ih =>
      intro hj
      rw [itx, ih (by omega)]
      show rndF q s k (0 + (j : Int)) 0 = _
      unfold rndF
      rw [show (0 + (j : Int)).toNat = j by omega, if_neg (h j (by omega))]
  unfold rndS
  rw [h1 41 (by omega)]
  rfl
theorem RepO.th {M : AM} {O : Nat} {q s : Int → Int} (h : RepO M O q s) {k v : Int} (hk : k ≠ 2 ∧ k ≠ 3) : RepO (up2 M O k v) O q s := RepO.fr h ⟨by rw [up2_rd, if_neg (by omega)], by rw [up2_rd, if_neg (by omega)]⟩ (fun a h1 h2 => up2_na (by omega))
/-- the cheapest kind -/
def kinF (q s : Int → Int) (k : Int) (a : Int × Int) : Int × Int := if needS q s k = (-1) then a else if a.1 = (-1) then (k, ((needS q s k) * (q (2 + k))) * (q (6 + k))) else if ((needS q s k) * (q (2 + k))) * (q (6 + k)) < a.2 then (k, ((needS q s k) * (q (2 + k))) * (q (6 + k))) else a
def kinS (q s : Int → Int) : Int := (itv (kinF q s) (-1, 0) 0 (q 0).toNat).1
/-- the best policy -/
def polF (q s : Int → Int) (p : Int) (a : Int) : Int := if a = (-1) then p else if fulN q s a < fulN q s p then p else if fulN q s p = fulN q s a then (if wr (lossS q s p) < wr (lossS q s a) then p else a) else a
def polS (q s : Int → Int) : Int := itv (polF q s) (-1) 0 4
theorem o58 : am_oc 58 = 7 := by decide +kernel
theorem rt58 : am_rt 58 = some .int := by decide +kernel
theorem gr7_9 : am_gfr 7 9 7 0 = true := by decide +kernel
theorem o57 : am_oc 57 = 7 := by decide +kernel
theorem gi7_63 : am_gfi 7 63 4 0 = true := by decide +kernel
theorem m7_69 : am_mlk 7 69 0 56 = true := by decide +kernel
theorem na56 : am_na 56 = 1 := by decide +kernel
theorem nl56 : am_nL 56 = 4 := by decide +kernel
theorem pd56 : ∀ a0 a1 : AV, am_pad 56 [a0, a1] = [a0, a1, aU, aU] := by intros; unfold am_pad; rw [nl56]; rfl
theorem ln56 : 2 ≤ am_nL 56 := by rw [nl56]; decide
theorem gr7_72 : am_gfr 7 72 4 1 = true := by decide +kernel
theorem gr7_75 : am_gfr 7 75 4 2 = true := by decide +kernel
theorem rt57 : am_rt 57 = some .int := by decide +kernel
theorem o252 : am_oc 252 = 9 := by decide +kernel
theorem m9_216 : am_mlk 9 216 0 188 = true := by decide +kernel
theorem na188 : am_na 188 = 0 := by decide +kernel
theorem nl188 : am_nL 188 = 1 := by decide +kernel
theorem pd188 : ∀ a0 : AV, am_pad 188 [a0] = [a0] := by intros; unfold am_pad; rw [nl188]; rfl
theorem ln188 : 1 ≤ am_nL 188 := by rw [nl188]; decide
theorem o188 : am_oc 188 = 9 := by decide +kernel
theorem pi188_63 : am_pfi 188 9 63 9 0 = true := by decide +kernel
theorem gi9_66 : am_gfi 9 66 9 1 = true := by decide +kernel
theorem m9_70 : am_mlk 9 70 0 165 = true := by decide +kernel
theorem na165 : am_na 165 = 2 := by decide +kernel
theorem nl165 : am_nL 165 = 3 := by decide +kernel
theorem pd165 : ∀ a0 a1 a2 : AV, am_pad 165 [a0, a1, a2] = [a0, a1, a2] := by intros; unfold am_pad; rw [nl165]; rfl
theorem ln165 : 3 ≤ am_nL 165 := by rw [nl165]; decide
theorem o165 : am_oc 165 = 9 := by decide +kernel
theorem gi9_63 : am_gfi 9 63 9 0 = true := by decide +kernel
theorem rt165 : am_rt 165 = some .boolean := by decide +kernel
theorem rt188 : am_rt 188 = some .boolean := by decide +kernel
theorem gi9_203 : am_gfi 9 203 9 2 = true := by decide +kernel
theorem m9_338 : am_mlk 9 338 0 250 = true := by decide +kernel
theorem na250 : am_na 250 = 1 := by decide +kernel
theorem nl250 : am_nL 250 = 5 := by decide +kernel
theorem pd250 : ∀ a0 a1 : AV, am_pad 250 [a0, a1] = [a0, a1, aU, aU, aU] := by intros; unfold am_pad; rw [nl250]; rfl
theorem ln250 : 2 ≤ am_nL 250 := by rw [nl250]; decide
theorem rt252 : am_rt 252 = some .int := by decide +kernel
theorem t58 {g : AG} {M : AM} {T P A B W : Nat} {q s : Int → Int} {b : Int} {x1 : Int} (hST : ShTrial g T P A B W) (hSW : ShWorks g W P B) (hSP : ShPlan g P) (hSB : ShState g B) (hSA : ShState g A) (hRP : RepP M P q) (hRA : RepS M A s) (hQ : ValQ q) (hV : Val b q s) (hPB : P + 11 ≤ B ∨ B + 24 ≤ P) (hAB : A + 24 ≤ B ∨ B + 24 ≤ A) (h1 : 0 ≤ x1 ∧ x1 < q 0) (h3 : s 3 ≤ 40) (hb : b + 50 ≤ 1000000) :
    Ok 3 58 0 [aR T, aI x1, aU] [] g M (Rt (some (aI (rndS q s x1))) g (fun M9 => Wr B 24 M M9)) := by
  have yq0 : 0 ≤ q 0 ∧ q 0 ≤ 4 := Q_0 hQ
  have yq1 : 0 ≤ q 1 ∧ q 1 ≤ 6 := Q_1 hQ
  have ys3 : 0 ≤ s 3 ∧ s 3 ≤ 80 := V_3 hV
  have ys4 : 0 ≤ s 4 ∧ s 4 ≤ 16 := V_4 hV
  refine ok_aloadn (pc' := 1) i58_0 rfl rfl <| ok_getfr (r := B) (pc' := 4) i58_1 o58 gr7_22 (ShTrial_k0 hST) (ShTrial_r2 hST) rfl <| ok_aloadn (pc' := 5) i58_4 rfl rfl <| ok_getfr (r := A) (pc' := 8) i58_5 o58 gr7_15 (ShTrial_k0 hST) (ShTrial_r1 hST) rfl <| ?_
  refine ok_cn0 (pc' := 11) (d0 := 0) i58_8 rfl (cl_v o58 m7_34 na17 rfl rfl (bt rfl) (bt rfl) rfl (by rw [ShState_k0 hSB, o17])) ln17 (pd17 (aR B) (aR A)) (by omega) (t17 hSB hSA hRA hV hQ (by omega)) rfl (fun M1 p2 => ?_)
  have hFM1P : RepP M1 P q := RepP.fr hRP (fun a h1 h2 => p2.2 a (by omega))
  have hFM1A : RepS M1 A s := RepS.fr hRA (fun a h1 h2 => p2.2 a (by omega))
  refine ok_iconst (pc' := 12) i58_11 rfl <| ok_istoren (pc' := 13) (ls' := [aR T, aI x1, aI 0]) i58_12 (bt rfl) rfl rfl <| ?_
  refine ok_forx (lo := 0) (n := 41) (f := rndF q s x1) (a0 := 0) (fun x2 a ls M9 => Wr B 24 M M9 ∧ (x2 ≤ 40 → ∃ t, RepS M9 B t ∧ Val (b + x2) q t ∧ t 3 = s 3 + x2 ∧ Ag t (rndP q s x1 x2.toNat)) ∧ ls = [aR T, aI x1, aI x2]) ?_ ?_ _ _ ⟨p2.2, fun _ => ⟨s, p2.1, by rw [Int.add_zero]; exact hV, by omega, fun _ _ => rfl⟩, rfl⟩
  · rintro x2 a ls M9 g1 g2 ⟨hW9, hT, rfl⟩ hr ih
    have g3 : x2 < 41 := by omega
    have hP9 : RepP M9 P q := RepP.fr hRP (fun a h1 h2 => hW9 a (by omega))
    have hA9 : RepS M9 A s := RepS.fr hRA (fun a h1 h2 => hW9 a (by omega))
    obtain ⟨t, hR9, hV9, e3, hA⟩ := hT (by omega)
    have yt3 := V_3 hV9
    have yt4 := V_4 hV9
    have hVP := (rnd_aft hV h1 h3 hb x2.toNat (by omega)).1.1
    refine ok_iloadn (pc' := 14) i58_13 rfl rfl <| ok_bipush (v := 40) (pc' := 16) i58_14 rfl rfl <| ?_
    refine ok_cgt (pc1 := 69) (pc2 := 19) i58_16 (by omega) rfl rfl (fun h9 => by exfalso; omega) (fun h1 => ?_)
    refine ok_aloadn (pc' := 20) i58_19 rfl rfl <| ok_getfr (r := W) (pc' := 23) i58_20 o58 gr7_30 (ShTrial_k0 hST) (ShTrial_r3 hST) rfl <| ok_iconst (pc' := 24) i58_23 rfl <| ?_
    refine ok_cn (pc' := 27) (d0 := 2) i58_24 rfl (cl_v o58 m7_57 na46 rfl rfl (bt rfl) (bt rfl) rfl (by rw [ShWorks_k0 hSW, o46])) ln46 (pd46 (aR W) (aI 1)) (by omega) (t46 (x1 := 1) hSW hSP hSB hP9 hR9 hQ hV9 (by omega) (by omega)) rfl (fun M2 p3 => ?_)
    obtain ⟨s2, hs2⟩ : ∃ u9 : Int → Int, u9 = (fillS q t 1) := ⟨_, rfl⟩
    rw [← hs2] at p3
    have hRM2 : RepS M2 B s2 := p3.1
    have hPM2P : RepP M2 P q := RepP.fr hP9 (fun a h1 h2 => p3.2 a (by omega))
    have hSM2A : RepS M2 A s := RepS.fr hA9 (fun a h1 h2 => p3.2 a (by omega))
    have hVM2 : Val (b + x2) q s2 := by rw [hs2]; exact (fill_aft hV9 1).1
    have z61 : 0 ≤ s2 3 ∧ s2 3 ≤ 80 := V_3 hVM2
    have z62 : 0 ≤ s2 4 ∧ s2 4 ≤ 16 := V_4 hVM2
    have z63 : s2 3 = t 3 := by rw [hs2]; exact (fill_aft hV9 1).2.1
    refine ok_pop (pc' := 28) i58_27 rfl rfl <| ok_aloadn (pc' := 29) i58_28 rfl rfl <| ok_getfr (r := B) (pc' := 32) i58_29 o58 gr7_22 (ShTrial_k0 hST) (ShTrial_r2 hST) rfl <| ok_cp (pc' := 35) (d0 := 0) i58_32 rfl (cl_v o58 m7_60 na20 rfl rfl (bt rfl) (bt rfl) rfl (by rw [ShState_k0 hSB, o20])) ln20 (pd20 (aR B)) (by omega) (t20 hSB hRM2.toD hVM2 hQ) rfl <| ?_
    have z64 : 0 ≤ (r20 s2) ∧ (r20 s2) ≤ 144 := x20 (M := M2) hSB hRM2.toD hVM2 hQ
    refine ok_zne (pc1 := 40) (pc2 := 38) i58_35 (by omega) rfl rfl (fun h4 => ?_) (fun h4 => ?_)
    · refine ok_iloadn (pc' := 41) i58_40 rfl rfl <| ok_bipush (v := 40) (pc' := 43) i58_41 rfl rfl <| ?_
      refine ok_cge (pc1 := 63) (pc2 := 46) i58_43 (by omega) rfl rfl (fun h5 => ?_) (fun h5 => ?_)
      · refine ok_iinc (pc' := 66) (v := (x2 + 1)) (ls' := [aR T, aI x1, aI (x2 + 1)]) i58_63 rfl rfl rfl rfl <| ok_goto (pc' := 13) i58_66 rfl <| ?_
        have h20 : r20 s2 = r20 (rndN q s x1 x2.toNat) := by rw [hs2, rndN_P]; exact ag_20 (ag_fill hVP hA 1).1
        have e : rndF q s x1 x2 a = .inl 0 := by unfold rndF; rw [if_neg (by omega)]
        exact ih _ _ _ e ⟨Wr.trans hW9 p3.2, fun h => by exfalso; omega, rfl⟩
      · refine ok_aloadn (pc' := 47) i58_46 rfl rfl <| ok_getfr (r := W) (pc' := 50) i58_47 o58 gr7_30 (ShTrial_k0 hST) (ShTrial_r3 hST) rfl <| ok_iloadn (pc' := 51) i58_50 rfl rfl <| ?_
        refine ok_cn (pc' := 54) (d0 := 1) i58_51 rfl (cl_v o58 m7_54 na50 rfl rfl (bt rfl) (bt rfl) rfl (by rw [ShWorks_k0 hSW, o50])) ln50 (pd50 (aR W) (aI x1)) (by omega) (t50 (x1 := x1) hSW hSP hSB hPM2P hRM2 hQ hVM2 (by omega) (by omega) (by omega)) rfl (fun M6 p7 => ?_)
        obtain ⟨s6, hs6⟩ : ∃ u9 : Int → Int, u9 = (addT (upI s2 6 (s2 6 + ((q (2 + x1)) * (q (6 + x1))))) x1 (q (2 + x1))) := ⟨_, rfl⟩
        rw [← hs6] at p7
        have hRM6 : RepS M6 B s6 := p7.1
        have hPM6P : RepP M6 P q := RepP.fr hPM2P (fun a h1 h2 => p7.2 a (by omega))
        have hSM6A : RepS M6 A s := RepS.fr hSM2A (fun a h1 h2 => p7.2 a (by omega))
        have hVM6 : Val (b + x2) q s6 := by rw [hs6]; exact V_buy hVM2 (by omega) (by omega)
        have z65 : 0 ≤ s6 3 ∧ s6 3 ≤ 80 := V_3 hVM6
        have z66 : 0 ≤ s6 4 ∧ s6 4 ≤ 16 := V_4 hVM6
        have z67 : s6 3 = s2 3 + 1 := by rw [hs6, buy_3]
        refine ok_pop (pc' := 55) i58_54 rfl rfl <| ok_aloadn (pc' := 56) i58_55 rfl rfl <| ok_getfr (r := W) (pc' := 59) i58_56 o58 gr7_30 (ShTrial_k0 hST) (ShTrial_r3 hST) rfl <| ?_
        refine ok_cn (pc' := 62) (d0 := 2) i58_59 rfl (cl_v o58 m7_42 na48 rfl rfl (bt rfl) (bt rfl) rfl (by rw [ShWorks_k0 hSW, o48])) ln48 (pd48 (aR W)) (by omega) (t48 hSW hSP hSB hPM6P hRM6 hQ hVM6 (by omega)) rfl (fun M8 p9 => ?_)
        obtain ⟨s8, hs8⟩ : ∃ u9 : Int → Int, u9 = (endS q s6) := ⟨_, rfl⟩
        rw [← hs8] at p9
        have hRM8 : RepS M8 B s8 := p9.1
        have hPM8P : RepP M8 P q := RepP.fr hPM6P (fun a h1 h2 => p9.2 a (by omega))
        have hSM8A : RepS M8 A s := RepS.fr hSM6A (fun a h1 h2 => p9.2 a (by omega))
        have hVM8 : Val (b + x2 + 1) q s8 := by rw [hs8]; exact (end_aft hVM6 (by omega)).1
        have z68 : 0 ≤ s8 3 ∧ s8 3 ≤ 80 := V_3 hVM8
        have z69 : 0 ≤ s8 4 ∧ s8 4 ≤ 16 := V_4 hVM8
        have z70 : s8 3 = s6 3 := by rw [hs8]; exact (end_aft hVM6 (by omega)).2.2.1
        refine ok_pop (pc' := 63) i58_62 rfl rfl <| ok_iinc (pc' := 66) (v := (x2 + 1)) (ls' := [aR T, aI x1, aI (x2 + 1)]) i58_63 rfl rfl rfl rfl <| ok_goto (pc' := 13) i58_66 rfl <| ?_
        have h20 : r20 s2 = r20 (rndN q s x1 x2.toNat) := by rw [hs2, rndN_P]; exact ag_20 (ag_fill hVP hA 1).1
        have e : rndF q s x1 x2 a = .inl 0 := by unfold rndF; rw [if_neg (by omega)]
        have hag : Ag s8 (rndP q s x1 (x2 + 1).toNat) := by rw [show (x2 + 1).toNat = x2.toNat + 1 by omega, hs8, hs6, hs2]; show Ag _ (endS q (addT (rndN q s x1 x2.toNat) x1 (q (2 + x1)))); rw [rndN_P]; exact ag_end (ag_add (ag_up (ag_fill hVP hA 1).1 _) _ _)
        exact ih _ _ _ e ⟨Wr.trans hW9 (Wr.trans (Wr.trans p3.2 p7.2) p9.2), fun _ => ⟨s8, hRM8, by rw [show b + (x2 + 1) = b + x2 + 1 by omega]; exact hVM8, by omega, hag⟩, rfl⟩
    · refine ok_iloadn (pc' := 39) i58_38 rfl rfl <| ok_ireti i58_39 rt58 <| ?_
      have h20 : r20 s2 = r20 (rndN q s x1 x2.toNat) := by rw [hs2, rndN_P]; exact ag_20 (ag_fill hVP hA 1).1
      have e : rndF q s x1 x2 a = .inr x2 := by unfold rndF; rw [if_pos (by omega)]
      have e9 : rndS q s x1 = x2 := by unfold rndS; rw [hr _ e]; rfl
      exact ⟨by rw [e9], rfl, Wr.trans hW9 p3.2⟩
  · rintro x2 a ls M9 g1 g2 ⟨hW9, hT, rfl⟩
    have g3 : x2 = 41 := by omega
    have hP9 : RepP M9 P q := RepP.fr hRP (fun a h1 h2 => hW9 a (by omega))
    have hA9 : RepS M9 A s := RepS.fr hRA (fun a h1 h2 => hW9 a (by omega))
    refine ok_iloadn (pc' := 14) i58_13 rfl rfl <| ok_bipush (v := 40) (pc' := 16) i58_14 rfl rfl <| ?_
    refine ok_cgt (pc1 := 69) (pc2 := 19) i58_16 (by omega) rfl rfl (fun h1 => ?_) (fun h9 => by exfalso; omega)
    refine ok_iconst (pc' := 70) i58_69 rfl <| ok_ireti i58_70 rt58 <| ?_
    have e9 : rndS q s x1 = -1 := by unfold rndS; rw [g2]; rfl
    exact ⟨by rw [e9], rfl, hW9⟩
theorem t57 {g : AG} {M : AM} {T P A B W : Nat} {q s : Int → Int} {b : Int} (hST : ShTrial g T P A B W) (hSW : ShWorks g W P B) (hSP : ShPlan g P) (hSB : ShState g B) (hSA : ShState g A) (hRP : RepP M P q) (hRA : RepS M A s) (hQ : ValQ q) (hV : Val b q s) (hPB : P + 11 ≤ B ∨ B + 24 ≤ P) (hAB : A + 24 ≤ B ∨ B + 24 ≤ A) (h3 : s 3 ≤ 40) (hb : b + 7 ≤ 1000000) :
    Ok 4 57 0 [aR T, aU, aU, aU, aU, aU] [] g M (Rt (some (aI (kinS q s))) g (fun M9 => Wr B 24 M M9)) := by
  have yq0 : 0 ≤ q 0 ∧ q 0 ≤ 4 := Q_0 hQ
  have yq1 : 0 ≤ q 1 ∧ q 1 ≤ 6 := Q_1 hQ
  have ys3 : 0 ≤ s 3 ∧ s 3 ≤ 80 := V_3 hV
  have ys4 : 0 ≤ s 4 ∧ s 4 ≤ 16 := V_4 hV
  refine ok_iconst (pc' := 1) i57_0 rfl <| ok_istoren (pc' := 2) (ls' := [aR T, aI (-1), aU, aU, aU, aU]) i57_1 (bt rfl) rfl rfl <| ok_iconst (pc' := 3) i57_2 rfl <| ok_istoren (pc' := 4) (ls' := [aR T, aI (-1), aI 0, aU, aU, aU]) i57_3 (bt rfl) rfl rfl <| ok_iconst (pc' := 5) i57_4 rfl <| ok_istoren (pc' := 6) (ls' := [aR T, aI (-1), aI 0, aI 0, aU, aU]) i57_5 (bt rfl) rfl rfl <| ?_
  refine ok_for (lo := 0) (n := (q 0).toNat) (f := kinF q s) (a0 := (-1, 0)) (fun x3 a ls M9 => Wr B 24 M M9 ∧ (-1 ≤ a.1 ∧ a.1 < x3) ∧ (-2147483648 ≤ a.2 ∧ a.2 < 2147483648) ∧ ∃ w4 w5 : AV, am_cat w4 = 1 ∧ am_cat w5 = 1 ∧ ls = [aR T, aI a.1, aI a.2, aI x3, w4, w5]) ?_ ?_ _ _ ⟨Wr.rfl, by decide, by decide, aU, aU, rfl, rfl, rfl⟩
  · rintro x3 ⟨x1, x2⟩ ls M9 g1 g2 ⟨hW9, ha, hc, w4, w5, hw4, hw5, rfl⟩ ih
    dsimp only at ha hc ⊢
    have g3 : x3 < q 0 := by omega
    have hP9 : RepP M9 P q := RepP.fr hRP (fun a h1 h2 => hW9 a (by omega))
    have hA9 : RepS M9 A s := RepS.fr hRA (fun a h1 h2 => hW9 a (by omega))
    refine ok_iloadn (pc' := 7) i57_6 rfl rfl <| ok_aloadn (pc' := 8) i57_7 rfl rfl <| ok_getfr (r := P) (pc' := 11) i57_8 o57 gr7_9 (ShTrial_k0 hST) (ShTrial_r0 hST) rfl <| ok_getfi (v := (q 0)) (pc' := 14) i57_11 o57 gi7_63 (ShPlan_k0 hSP) (RepP_f0 hP9) rfl <| ?_
    refine ok_cge (pc1 := 76) (pc2 := 17) i57_14 (by omega) rfl rfl (fun h9 => by exfalso; omega) (fun h1 => ?_)
    refine ok_aloadn (pc' := 18) i57_17 rfl rfl <| ok_iloadn (pc' := 19) i57_18 rfl rfl <| ?_
    refine ok_cn (pc' := 22) (d0 := 3) i57_19 rfl (cl_v o57 m7_69 na56 rfl rfl (bt rfl) (bt rfl) rfl (by rw [ShTrial_k0 hST, o56])) ln56 (pd56 (aR T) (aI x3)) (by omega) (t56 (x1 := x3) hST hSW hSP hSB hSA hP9 hA9 hQ hV (by omega) (by omega) (by omega) (by omega) (by omega)) rfl (fun M2 p3 => ?_)
    have hFM2P : RepP M2 P q := RepP.fr hP9 (fun a h1 h2 => p3 a (by omega))
    have hFM2A : RepS M2 A s := RepS.fr hA9 (fun a h1 h2 => p3 a (by omega))
    have z61 : -1 ≤ (needS q s x3) ∧ (needS q s x3) ≤ 12 := need_rg
    have z62 : -2147483648 ≤ (((needS q s x3) * (q (2 + x3))) * (q (6 + x3))) ∧ (((needS q s x3) * (q (2 + x3))) * (q (6 + x3))) < 2147483648 := bst_rg need_rg (Q_2 hQ (by omega) (by omega)) (Q_6 hQ (by omega) (by omega))
    refine ok_istore (pc' := 24) (ls' := [aR T, aI x1, aI x2, aI x3, aI (needS q s x3), w5]) i57_22 (bt rfl) rfl rfl <| ok_iload (pc' := 26) i57_24 rfl rfl <| ok_aloadn (pc' := 27) i57_26 rfl rfl <| ok_getfr (r := P) (pc' := 30) i57_27 o57 gr7_9 (ShTrial_k0 hST) (ShTrial_r0 hST) rfl <| ok_getfr (r := (P + 1)) (pc' := 33) i57_30 o57 gr7_72 (ShPlan_k0 hSP) (ShPlan_r1 hSP) rfl <| ok_iloadn (pc' := 34) i57_33 rfl rfl <| ?_
    have z63 : 1 ≤ q (2 + x3) ∧ q (2 + x3) ≤ 200 := Q_2 hQ (i := x3) (by omega) (by omega)
    refine ok_iaload (v := (q (2 + x3))) (pc' := 35) i57_34 (ShPlan_k1 hSP) (by decide) (ShPlan_l1 hSP) (by omega) (RepP_1 hFM2P (by omega) (by omega)) rfl <| ok_imul (v := ((needS q s x3) * (q (2 + x3)))) (pc' := 36) i57_35 rfl rfl <| ok_aloadn (pc' := 37) i57_36 rfl rfl <| ok_getfr (r := P) (pc' := 40) i57_37 o57 gr7_9 (ShTrial_k0 hST) (ShTrial_r0 hST) rfl <| ok_getfr (r := (P + 2)) (pc' := 43) i57_40 o57 gr7_75 (ShPlan_k0 hSP) (ShPlan_r2 hSP) rfl <| ok_iloadn (pc' := 44) i57_43 rfl rfl <| ?_
    have z64 : 1 ≤ q (6 + x3) ∧ q (6 + x3) ≤ 99 := Q_6 hQ (i := x3) (by omega) (by omega)
    refine ok_iaload (v := (q (6 + x3))) (pc' := 45) i57_44 (ShPlan_k2 hSP) (by decide) (ShPlan_l2 hSP) (by omega) (RepP_2 hFM2P (by omega) (by omega)) rfl <| ok_imul (v := (((needS q s x3) * (q (2 + x3))) * (q (6 + x3)))) (pc' := 46) i57_45 rfl rfl <| ok_istore (pc' := 48) (ls' := [aR T, aI x1, aI x2, aI x3, aI (needS q s x3), aI (((needS q s x3) * (q (2 + x3))) * (q (6 + x3)))]) i57_46 (bt rfl) rfl rfl <| ok_iload (pc' := 50) i57_48 rfl rfl <| ok_iconst (pc' := 51) i57_50 rfl <| ?_
    refine ok_ceq (pc1 := 70) (pc2 := 54) i57_51 (by omega) rfl rfl (fun h4 => ?_) (fun h4 => ?_)
    · refine ok_iinc (pc' := 73) (v := (x3 + 1)) (ls' := [aR T, aI x1, aI x2, aI (x3 + 1), aI (needS q s x3), aI (((needS q s x3) * (q (2 + x3))) * (q (6 + x3)))]) i57_70 rfl rfl rfl rfl <| ok_goto (pc' := 6) i57_73 rfl <| ?_
      have e : kinF q s x3 (x1, x2) = (x1, x2) := by unfold kinF; dsimp only; grind
      exact ih _ _ ⟨Wr.trans hW9 p3, by rw [e]; show -1 ≤ x1 ∧ x1 < x3 + 1; omega, by rw [e]; show -2147483648 ≤ x2 ∧ x2 < 2147483648; omega, by rw [e]; exact ⟨aI _, aI _, rfl, rfl, rfl⟩⟩
    · refine ok_iloadn (pc' := 55) i57_54 rfl rfl <| ok_iconst (pc' := 56) i57_55 rfl <| ?_
      refine ok_ceq (pc1 := 65) (pc2 := 59) i57_56 (by omega) rfl rfl (fun h5 => ?_) (fun h5 => ?_)
      · refine ok_iloadn (pc' := 66) i57_65 rfl rfl <| ok_istoren (pc' := 67) (ls' := [aR T, aI x3, aI x2, aI x3, aI (needS q s x3), aI (((needS q s x3) * (q (2 + x3))) * (q (6 + x3)))]) i57_66 (bt rfl) rfl rfl <| ok_iload (pc' := 69) i57_67 rfl rfl <| ok_istoren (pc' := 70) (ls' := [aR T, aI x3, aI (((needS q s x3) * (q (2 + x3))) * (q (6 + x3))), aI x3, aI (needS q s x3), aI (((needS q s x3) * (q (2 + x3))) * (q (6 + x3)))]) i57_69 (bt rfl) rfl rfl <| ok_iinc (pc' := 73) (v := (x3 + 1)) (ls' := [aR T, aI x3, aI (((needS q s x3) * (q (2 + x3))) * (q (6 + x3))), aI (x3 + 1), aI (needS q s x3), aI (((needS q s x3) * (q (2 + x3))) * (q (6 + x3)))]) i57_70 rfl rfl rfl rfl <| ok_goto (pc' := 6) i57_73 rfl <| ?_
        have e : kinF q s x3 (x1, x2) = (x3, (((needS q s x3) * (q (2 + x3))) * (q (6 + x3)))) := by unfold kinF; dsimp only; grind
        exact ih _ _ ⟨Wr.trans hW9 p3, by rw [e]; show -1 ≤ x3 ∧ x3 < x3 + 1; omega, by rw [e]; show -2147483648 ≤ (((needS q s x3) * (q (2 + x3))) * (q (6 + x3))) ∧ (((needS q s x3) * (q (2 + x3))) * (q (6 + x3))) < 2147483648; omega, by rw [e]; exact ⟨aI _, aI _, rfl, rfl, rfl⟩⟩
      · refine ok_iload (pc' := 61) i57_59 rfl rfl <| ok_iloadn (pc' := 62) i57_61 rfl rfl <| ?_
        refine ok_cge (pc1 := 70) (pc2 := 65) i57_62 (by omega) rfl rfl (fun h6 => ?_) (fun h6 => ?_)
        · refine ok_iinc (pc' := 73) (v := (x3 + 1)) (ls' := [aR T, aI x1, aI x2, aI (x3 + 1), aI (needS q s x3), aI (((needS q s x3) * (q (2 + x3))) * (q (6 + x3)))]) i57_70 rfl rfl rfl rfl <| ok_goto (pc' := 6) i57_73 rfl <| ?_
          have e : kinF q s x3 (x1, x2) = (x1, x2) := by unfold kinF; dsimp only; grind
          exact ih _ _ ⟨Wr.trans hW9 p3, by rw [e]; show -1 ≤ x1 ∧ x1 < x3 + 1; omega, by rw [e]; show -2147483648 ≤ x2 ∧ x2 < 2147483648; omega, by rw [e]; exact ⟨aI _, aI _, rfl, rfl, rfl⟩⟩
        · refine ok_iloadn (pc' := 66) i57_65 rfl rfl <| ok_istoren (pc' := 67) (ls' := [aR T, aI x3, aI x2, aI x3, aI (needS q s x3), aI (((needS q s x3) * (q (2 + x3))) * (q (6 + x3)))]) i57_66 (bt rfl) rfl rfl <| ok_iload (pc' := 69) i57_67 rfl rfl <| ok_istoren (pc' := 70) (ls' := [aR T, aI x3, aI (((needS q s x3) * (q (2 + x3))) * (q (6 + x3))), aI x3, aI (needS q s x3), aI (((needS q s x3) * (q (2 + x3))) * (q (6 + x3)))]) i57_69 (bt rfl) rfl rfl <| ok_iinc (pc' := 73) (v := (x3 + 1)) (ls' := [aR T, aI x3, aI (((needS q s x3) * (q (2 + x3))) * (q (6 + x3))), aI (x3 + 1), aI (needS q s x3), aI (((needS q s x3) * (q (2 + x3))) * (q (6 + x3)))]) i57_70 rfl rfl rfl rfl <| ok_goto (pc' := 6) i57_73 rfl <| ?_
          have e : kinF q s x3 (x1, x2) = (x3, (((needS q s x3) * (q (2 + x3))) * (q (6 + x3)))) := by unfold kinF; dsimp only; grind
          exact ih _ _ ⟨Wr.trans hW9 p3, by rw [e]; show -1 ≤ x3 ∧ x3 < x3 + 1; omega, by rw [e]; show -2147483648 ≤ (((needS q s x3) * (q (2 + x3))) * (q (6 + x3))) ∧ (((needS q s x3) * (q (2 + x3))) * (q (6 + x3))) < 2147483648; omega, by rw [e]; exact ⟨aI _, aI _, rfl, rfl, rfl⟩⟩
  · rintro x3 ⟨x1, x2⟩ ls M9 g1 g2 ⟨hW9, ha, hc, w4, w5, hw4, hw5, rfl⟩
    dsimp only at ha hc ⊢
    have g3 : x3 = q 0 := by omega
    have hP9 : RepP M9 P q := RepP.fr hRP (fun a h1 h2 => hW9 a (by omega))
    have hA9 : RepS M9 A s := RepS.fr hRA (fun a h1 h2 => hW9 a (by omega))
    refine ok_iloadn (pc' := 7) i57_6 rfl rfl <| ok_aloadn (pc' := 8) i57_7 rfl rfl <| ok_getfr (r := P) (pc' := 11) i57_8 o57 gr7_9 (ShTrial_k0 hST) (ShTrial_r0 hST) rfl <| ok_getfi (v := (q 0)) (pc' := 14) i57_11 o57 gi7_63 (ShPlan_k0 hSP) (RepP_f0 hP9) rfl <| ?_
    refine ok_cge (pc1 := 76) (pc2 := 17) i57_14 (by omega) rfl rfl (fun h1 => ?_) (fun h9 => by exfalso; omega)
    refine ok_iloadn (pc' := 77) i57_76 rfl rfl <| ok_ireti i57_77 rt57 <| ?_
    exact ⟨by unfold kinS; rw [g2], rfl, hW9⟩
theorem t252 {g : AG} {M : AM} {O : Nat} {s q : Int → Int} {b : Int} (hSO : ShModel g O) (hRO : RepO M O q s) (hV : Val b q s) (hQ : ValQ q) (h3 : s 3 ≤ 40) (hb : b + 7 ≤ 1000000) (hYd : M O 1 = 1) :
    Ok 8 252 0 [aR O, aU, aU, aU, aU, aU] [] g M (Rt (some (aI (kinS q s))) g (fun M9 => WI (up2 M O 0 0) M9 O)) := by
  have ys3 : 0 ≤ s 3 ∧ s 3 ≤ 80 := V_3 hV
  have ys4 : 0 ≤ s 4 ∧ s 4 ≤ 16 := V_4 hV
  have yq0 : 0 ≤ q 0 ∧ q 0 ≤ 4 := Q_0 hQ
  have yq1 : 0 ≤ q 1 ∧ q 1 ≤ 6 := Q_1 hQ
  refine ok_aloadn (pc' := 1) i252_0 rfl rfl <| ok_cc i252_1 rfl (cl_v o252 m9_216 na188 rfl rfl (bt rfl) (bt rfl) rfl (by rw [ShModel_k0 hSO, o188])) ln188 (pd188 (aR O)) <| ok_aloadn (pc' := 1) i188_0 rfl rfl <| ok_iconst (pc' := 2) i188_1 rfl <| ok_putfi (pc' := 5) i188_2 o188 pi188_63 (ShModel_k0 hSO) rfl <| ok_aloadn (pc' := 6) i188_5 rfl rfl <| ok_aloadn (pc' := 7) i188_6 rfl rfl <| ok_getfi (v := 1) (pc' := 10) i188_7 o188 gi9_66 (ShModel_k0 hSO) (rd_ni (by decide) hYd) rfl <| ?_
  refine ok_kz1 (pc1 := 17) (pc2 := 13) i188_10 (by decide) rfl rfl <| ok_iconst (pc' := 18) i188_17 rfl <| ok_iconst (pc' := 19) i188_18 rfl <| ok_cc i188_19 rfl (cl_v o188 m9_70 na165 rfl rfl (bt rfl) (bt rfl) rfl (by rw [ShModel_k0 hSO, o165])) ln165 (pd165 (aR O) (aI 0) (aI 1)) <| ok_aloadn (pc' := 1) i165_0 rfl rfl <| ok_getfi (v := 0) (pc' := 4) i165_1 o165 gi9_63 (ShModel_k0 hSO) rd_eq rfl <| ok_kz0 (pc1 := 16) (pc2 := 7) i165_4 (by decide) rfl rfl <| ok_iloadn (pc' := 8) i165_7 rfl rfl <| ?_
  refine ok_kz1 (pc1 := 16) (pc2 := 11) i165_8 (by decide) rfl rfl <| ok_aloadn (pc' := 17) i165_16 rfl rfl <| ok_getfi (v := 0) (pc' := 20) i165_17 o165 gi9_63 (ShModel_k0 hSO) rd_eq rfl <| ok_kz1 (pc1 := 27) (pc2 := 23) i165_20 (by decide) rfl rfl <| ok_iconst (pc' := 28) i165_27 rfl <| ok_iretz i165_28 rt165 (by decide) <| kt_v (pc' := 22) rfl <| ok_iretz i188_22 rt188 (by decide) <| ?_
  refine kt_v (pc' := 4) rfl <| ok_kz1 (pc1 := 9) (pc2 := 7) i252_4 (by decide) rfl rfl <| ok_iconst (pc' := 10) i252_9 rfl <| ok_istoren (pc' := 11) (ls' := [aR O, aI (-1), aU, aU, aU, aU]) i252_10 (bt rfl) rfl rfl <| ok_iconst (pc' := 12) i252_11 rfl <| ok_istoren (pc' := 13) (ls' := [aR O, aI (-1), aI 0, aU, aU, aU]) i252_12 (bt rfl) rfl rfl <| ok_iconst (pc' := 14) i252_13 rfl <| ok_istoren (pc' := 15) (ls' := [aR O, aI (-1), aI 0, aI 0, aU, aU]) i252_14 (bt rfl) rfl rfl <| ?_
  obtain ⟨M8, hM8⟩ : ∃ u9 : AM, u9 = (up2 M O 0 0) := ⟨_, rfl⟩
  show Ok _ _ _ _ _ _ (up2 M O 0 0) _
  rw [← hM8]
  have hR8 : RepO M8 O q s := by rw [hM8]; exact (RepO.th hRO (by decide))
  refine ok_for (lo := 0) (n := (q 0).toNat) (f := kinF q s) (a0 := (-1, 0)) (fun x3 a ls M9 => WI M8 M9 O ∧ (-1 ≤ a.1 ∧ a.1 < x3) ∧ (-2147483648 ≤ a.2 ∧ a.2 < 2147483648) ∧ ∃ w4 w5 : AV, am_cat w4 = 1 ∧ am_cat w5 = 1 ∧ ls = [aR O, aI a.1, aI a.2, aI x3, w4, w5]) ?_ ?_ _ _ ⟨WI.rfl, by decide, by decide, aU, aU, rfl, rfl, rfl⟩
  · rintro x3 ⟨x1, x2⟩ ls M9 g1 g2 ⟨hW9, ha, hc, w4, w5, hw4, hw5, rfl⟩ ih
    dsimp only at ha hc ⊢
    have g3 : x3 < q 0 := by omega
    have hR9 : RepO M9 O q s := hW9.repO hR8
    refine ok_iloadn (pc' := 16) i252_15 rfl rfl <| ok_aloadn (pc' := 17) i252_16 rfl rfl <| ok_getfi (v := (q 0)) (pc' := 20) i252_17 o252 gi9_203 (ShModel_k0 hSO) (RepO_f2 hR9) rfl <| ?_
    refine ok_cge (pc1 := 76) (pc2 := 23) i252_20 (by omega) rfl rfl (fun h9 => by exfalso; omega) (fun h1 => ?_)
    refine ok_aloadn (pc' := 24) i252_23 rfl rfl <| ok_iloadn (pc' := 25) i252_24 rfl rfl <| ?_
    refine ok_cn (pc' := 28) (d0 := 7) i252_25 rfl (cl_v o252 m9_338 na250 rfl rfl (bt rfl) (bt rfl) rfl (by rw [ShModel_k0 hSO, o250])) ln250 (pd250 (aR O) (aI x3)) (by omega) (t250 (x1 := x3) hSO hR9 hV hQ (by omega) (by omega) (by omega)) rfl (fun M2 p3 => ?_)
    have hFM2 : RepO M2 O q s := p3.repO hR9
    have z61 : -1 ≤ (needS q s x3) ∧ (needS q s x3) ≤ 12 := need_rg
    have z62 : -2147483648 ≤ (((needS q s x3) * (q (2 + x3))) * (q (6 + x3))) ∧ (((needS q s x3) * (q (2 + x3))) * (q (6 + x3))) < 2147483648 := bst_rg need_rg (Q_2 hQ (by omega) (by omega)) (Q_6 hQ (by omega) (by omega))
    refine ok_istore (pc' := 30) (ls' := [aR O, aI x1, aI x2, aI x3, aI (needS q s x3), w5]) i252_28 (bt rfl) rfl rfl <| ok_iload (pc' := 32) i252_30 rfl rfl <| ok_aloadn (pc' := 33) i252_32 rfl rfl <| ok_getfr (r := (O + 1)) (pc' := 36) i252_33 o252 gr9_7 (ShModel_k0 hSO) (ShModel_r4 hSO) rfl <| ok_iloadn (pc' := 37) i252_36 rfl rfl <| ?_
    have z63 : 1 ≤ q (2 + x3) ∧ q (2 + x3) ≤ 200 := Q_2 hQ (i := x3) (by omega) (by omega)
    refine ok_iaload (v := (q (2 + x3))) (pc' := 38) i252_37 (ShModel_k1 hSO) (by decide) (ShModel_l1 hSO) (by omega) (RepO_1 hFM2 (by omega) (by omega)) rfl <| ok_imul (v := ((needS q s x3) * (q (2 + x3)))) (pc' := 39) i252_38 rfl rfl <| ok_aloadn (pc' := 40) i252_39 rfl rfl <| ok_getfr (r := (O + 2)) (pc' := 43) i252_40 o252 gr9_13 (ShModel_k0 hSO) (ShModel_r5 hSO) rfl <| ok_iloadn (pc' := 44) i252_43 rfl rfl <| ?_
    have z64 : 1 ≤ q (6 + x3) ∧ q (6 + x3) ≤ 99 := Q_6 hQ (i := x3) (by omega) (by omega)
    refine ok_iaload (v := (q (6 + x3))) (pc' := 45) i252_44 (ShModel_k2 hSO) (by decide) (ShModel_l2 hSO) (by omega) (RepO_2 hFM2 (by omega) (by omega)) rfl <| ok_imul (v := (((needS q s x3) * (q (2 + x3))) * (q (6 + x3)))) (pc' := 46) i252_45 rfl rfl <| ok_istore (pc' := 48) (ls' := [aR O, aI x1, aI x2, aI x3, aI (needS q s x3), aI (((needS q s x3) * (q (2 + x3))) * (q (6 + x3)))]) i252_46 (bt rfl) rfl rfl <| ok_iload (pc' := 50) i252_48 rfl rfl <| ok_iconst (pc' := 51) i252_50 rfl <| ?_
    refine ok_ceq (pc1 := 70) (pc2 := 54) i252_51 (by omega) rfl rfl (fun h4 => ?_) (fun h4 => ?_)
    · refine ok_iinc (pc' := 73) (v := (x3 + 1)) (ls' := [aR O, aI x1, aI x2, aI (x3 + 1), aI (needS q s x3), aI (((needS q s x3) * (q (2 + x3))) * (q (6 + x3)))]) i252_70 rfl rfl rfl rfl <| ok_goto (pc' := 15) i252_73 rfl <| ?_
      have e : kinF q s x3 (x1, x2) = (x1, x2) := by unfold kinF; dsimp only; grind
      exact ih _ _ ⟨WI.trans hW9 p3, by rw [e]; show -1 ≤ x1 ∧ x1 < x3 + 1; omega, by rw [e]; show -2147483648 ≤ x2 ∧ x2 < 2147483648; omega, by rw [e]; exact ⟨aI _, aI _, rfl, rfl, rfl⟩⟩
    · refine ok_iloadn (pc' := 55) i252_54 rfl rfl <| ok_iconst (pc' := 56) i252_55 rfl <| ?_
      refine ok_ceq (pc1 := 65) (pc2 := 59) i252_56 (by omega) rfl rfl (fun h5 => ?_) (fun h5 => ?_)
      · refine ok_iloadn (pc' := 66) i252_65 rfl rfl <| ok_istoren (pc' := 67) (ls' := [aR O, aI x3, aI x2, aI x3, aI (needS q s x3), aI (((needS q s x3) * (q (2 + x3))) * (q (6 + x3)))]) i252_66 (bt rfl) rfl rfl <| ok_iload (pc' := 69) i252_67 rfl rfl <| ok_istoren (pc' := 70) (ls' := [aR O, aI x3, aI (((needS q s x3) * (q (2 + x3))) * (q (6 + x3))), aI x3, aI (needS q s x3), aI (((needS q s x3) * (q (2 + x3))) * (q (6 + x3)))]) i252_69 (bt rfl) rfl rfl <| ok_iinc (pc' := 73) (v := (x3 + 1)) (ls' := [aR O, aI x3, aI (((needS q s x3) * (q (2 + x3))) * (q (6 + x3))), aI (x3 + 1), aI (needS q s x3), aI (((needS q s x3) * (q (2 + x3))) * (q (6 + x3)))]) i252_70 rfl rfl rfl rfl <| ok_goto (pc' := 15) i252_73 rfl <| ?_
        have e : kinF q s x3 (x1, x2) = (x3, (((needS q s x3) * (q (2 + x3))) * (q (6 + x3)))) := by unfold kinF; dsimp only; grind
        exact ih _ _ ⟨WI.trans hW9 p3, by rw [e]; show -1 ≤ x3 ∧ x3 < x3 + 1; omega, by rw [e]; show -2147483648 ≤ (((needS q s x3) * (q (2 + x3))) * (q (6 + x3))) ∧ (((needS q s x3) * (q (2 + x3))) * (q (6 + x3))) < 2147483648; omega, by rw [e]; exact ⟨aI _, aI _, rfl, rfl, rfl⟩⟩
      · refine ok_iload (pc' := 61) i252_59 rfl rfl <| ok_iloadn (pc' := 62) i252_61 rfl rfl <| ?_
        refine ok_cge (pc1 := 70) (pc2 := 65) i252_62 (by omega) rfl rfl (fun h6 => ?_) (fun h6 => ?_)
        · refine ok_iinc (pc' := 73) (v := (x3 + 1)) (ls' := [aR O, aI x1, aI x2, aI (x3 + 1), aI (needS q s x3), aI (((needS q s x3) * (q (2 + x3))) * (q (6 + x3)))]) i252_70 rfl rfl rfl rfl <| ok_goto (pc' := 15) i252_73 rfl <| ?_
          have e : kinF q s x3 (x1, x2) = (x1, x2) := by unfold kinF; dsimp only; grind
          exact ih _ _ ⟨WI.trans hW9 p3, by rw [e]; show -1 ≤ x1 ∧ x1 < x3 + 1; omega, by rw [e]; show -2147483648 ≤ x2 ∧ x2 < 2147483648; omega, by rw [e]; exact ⟨aI _, aI _, rfl, rfl, rfl⟩⟩
        · refine ok_iloadn (pc' := 66) i252_65 rfl rfl <| ok_istoren (pc' := 67) (ls' := [aR O, aI x3, aI x2, aI x3, aI (needS q s x3), aI (((needS q s x3) * (q (2 + x3))) * (q (6 + x3)))]) i252_66 (bt rfl) rfl rfl <| ok_iload (pc' := 69) i252_67 rfl rfl <| ok_istoren (pc' := 70) (ls' := [aR O, aI x3, aI (((needS q s x3) * (q (2 + x3))) * (q (6 + x3))), aI x3, aI (needS q s x3), aI (((needS q s x3) * (q (2 + x3))) * (q (6 + x3)))]) i252_69 (bt rfl) rfl rfl <| ok_iinc (pc' := 73) (v := (x3 + 1)) (ls' := [aR O, aI x3, aI (((needS q s x3) * (q (2 + x3))) * (q (6 + x3))), aI (x3 + 1), aI (needS q s x3), aI (((needS q s x3) * (q (2 + x3))) * (q (6 + x3)))]) i252_70 rfl rfl rfl rfl <| ok_goto (pc' := 15) i252_73 rfl <| ?_
          have e : kinF q s x3 (x1, x2) = (x3, (((needS q s x3) * (q (2 + x3))) * (q (6 + x3)))) := by unfold kinF; dsimp only; grind
          exact ih _ _ ⟨WI.trans hW9 p3, by rw [e]; show -1 ≤ x3 ∧ x3 < x3 + 1; omega, by rw [e]; show -2147483648 ≤ (((needS q s x3) * (q (2 + x3))) * (q (6 + x3))) ∧ (((needS q s x3) * (q (2 + x3))) * (q (6 + x3))) < 2147483648; omega, by rw [e]; exact ⟨aI _, aI _, rfl, rfl, rfl⟩⟩
  · rintro x3 ⟨x1, x2⟩ ls M9 g1 g2 ⟨hW9, ha, hc, w4, w5, hw4, hw5, rfl⟩
    dsimp only at ha hc ⊢
    have g3 : x3 = q 0 := by omega
    have hR9 : RepO M9 O q s := hW9.repO hR8
    refine ok_iloadn (pc' := 16) i252_15 rfl rfl <| ok_aloadn (pc' := 17) i252_16 rfl rfl <| ok_getfi (v := (q 0)) (pc' := 20) i252_17 o252 gi9_203 (ShModel_k0 hSO) (RepO_f2 hR9) rfl <| ?_
    refine ok_cge (pc1 := 76) (pc2 := 23) i252_20 (by omega) rfl rfl (fun h1 => ?_) (fun h9 => by exfalso; omega)
    refine ok_iloadn (pc' := 77) i252_76 rfl rfl <| ok_ireti i252_77 rt252 <| ?_
    exact ⟨by unfold kinS; rw [g2], rfl, hW9⟩
