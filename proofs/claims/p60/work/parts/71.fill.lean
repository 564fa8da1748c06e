/-! FILL: patterns, the order that is served next (by program, wip/p60/gen) -/
theorem gi17_94 : am_gfi 17 94 17 9 = true := by decide +kernel
theorem pfL_aft {b : Int} {q s : Int → Int} (hV : Val b q s) : ∀ n : Nat, (n : Int) ≤ q 1 → Aft b q s (itv (pfX q) (s, 0) 0 n) := by
  intro n
  induction n with
  | zero => exact fun _ => ⟨hV, rfl, rfl, by show s 11 = s 11 + 0; omega⟩
  | succ n ih => exact fun hn => pfX_aft ⟨by omega, by omega⟩ (ih (by omega))
theorem w220_9 {g : AG} {M : AM} {O : Nat} {A : YA} {s q : Int → Int} {b : Int} {bf : Int} {w4 w5 w6 w7 w8 w9 : AV} {Q : AO → AG → AM → Prop} (hY : Yd g M O A s q) (hV : Val b q s) (hO : O + 348 ≤ 100 + gN g) (hw4 : am_cat w4 = 1) (hw5 : am_cat w5 = 1) (hw6 : am_cat w6 = 1) (hw7 : am_cat w7 = 1) (hw8 : am_cat w8 = 1) (hw9 : am_cat w9 = 1) (K : ∀ (g1 : AG) (M1 : AM) (w4 w5 w6 w7 w8 w9 : AV), am_cat w4 = 1 → am_cat w5 = 1 → am_cat w6 = 1 → am_cat w7 = 1 → am_cat w8 = 1 → am_cat w9 = 1 → Yd g1 M1 O A (pfS q s) q → Fr (FY O) 6054 195606 g M g1 M1 → Ok 2 220 121 [aR 101, aI 3, aI bf, aI (q 1), w4, w5, w6, w7, w8, w9] [] g1 M1 Q) : Ok 2 220 9 [aR 101, aI 3, aI bf, aI 0, w4, w5, w6, w7, w8, w9] [] g M Q := by
  have hq1 := Q_1 (V_q hV)
  refine ok_lp (σ := Int) (fun p ls g9 M9 => (0 ≤ p ∧ p ≤ q 1) ∧ Yd g9 M9 O A (itv (pfX q) (s, 0) 0 p.toNat).1 q ∧ Fr (FY O) (1009 * p.toNat) (32601 * p.toNat) g M g9 M9 ∧ ∃ w4 w5 w6 w7 w8 w9 : AV, am_cat w4 = 1 ∧ am_cat w5 = 1 ∧ am_cat w6 = 1 ∧ am_cat w7 = 1 ∧ am_cat w8 = 1 ∧ am_cat w9 = 1 ∧ ls = [aR 101, aI 3, aI bf, aI p, w4, w5, w6, w7, w8, w9]) (fun p => (q 1 - p).toNat) ?_ 0 _ g M ⟨⟨by omega, by omega⟩, hY, Fr.rfl, w4, w5, w6, w7, w8, w9, hw4, hw5, hw6, hw7, hw8, hw9, rfl⟩
  rintro p ls g9 M9 ⟨hp, hYt, hfr, w4, w5, w6, w7, w8, w9, hw4, hw5, hw6, hw7, hw8, hw9, rfl⟩ ih
  have hA := pfL_aft hV p.toNat (by omega)
  obtain ⟨a, ha⟩ : ∃ a : (Int → Int) × Int, a = itv (pfX q) (s, 0) 0 p.toNat := ⟨_, rfl⟩
  rw [← ha] at hYt hA
  obtain ⟨t, ht⟩ : ∃ t : Int → Int, t = a.1 := ⟨_, rfl⟩
  have hVt : Val b q t := by rw [ht]; exact hA.1
  rw [← ht] at hYt
  have e0 : Fr (FY O) 0 0 g9 M9 g9 M9 := Fr.rfl
  have hQ := V_q hVt
  have y3 := V_3 hVt
  have y4 := V_4 hVt
  have y5 := V_5 hVt
  have yq0 := Q_0 hQ
  have yq1 := Q_1 hQ
  refine ok_iloadn (pc' := 10) i220_9 rfl rfl <| ok_aloadn (pc' := 11) i220_10 rfl rfl <| ok_getfi (v := (q 1)) (pc' := 14) i220_11 o220 gi17_94 (hYt.gr.ky) (hYt.mr.q1) rfl <| ?_
  refine ok_cge (pc1 := 121) (pc2 := 17) i220_14 (by omega) rfl rfl (fun h1 => ?_) (fun h1 => ?_)
  · rw [show p = q 1 by omega] at ha hfr ⊢
    exact K _ _ w4 w5 w6 w7 w8 w9 hw4 hw5 hw6 hw7 hw8 hw9 (by unfold pfS pfL; rw [← ha, ← ht]; exact hYt) (Fr.w hfr (by omega) (by omega))
  · refine ok_iloadn (pc' := 18) i220_17 rfl rfl <| ok_iconst (pc' := 19) i220_18 rfl <| ok_kc0 (pc1 := 121) (pc2 := 22) i220_19 (by decide) rfl rfl <| ok_aloadn (pc' := 23) i220_22 rfl rfl <| ok_aloadn (pc' := 24) i220_23 rfl rfl <| ok_getfr (r := 105) (pc' := 27) i220_24 o220 gr17_26 (hYt.gr.ky) (hYt.gr.r2) rfl <| ok_iloadn (pc' := 28) i220_27 rfl rfl <| ok_aaload (r := (A.P p)) (pc' := 29) i220_28 (hYt.gr.k5) (by decide) (hYt.gr.l5) (by omega) ((hYt.gr.pp p (by omega) (by omega)).1) rfl <| ?_
    refine ok_iconst (pc' := 30) i220_29 rfl <| ?_
    refine ok_cc i220_30 rfl (cl_v o220 m17_190 na199 rfl rfl (bt rfl) (bt rfl) rfl (by rw [hYt.gr.ky, o199])) ln199 (pd199 (aR 101) (aR (A.P p)) (aI 1)) <| (Ok.deep (t199 (x2 := 1) hYt hVt (hYt.ip (p := p) (by omega) (by omega)) (ptV hQ ⟨by omega, by omega⟩) ⟨by omega, by omega⟩) (by omega)).mono (fun o9 g4c M4c p4c => ?_)
    obtain ⟨eg4, em4, a4r, hF4, rfl⟩ := p4c
    rw [eg4, em4, Fst.uniq (by omega) hF4 (rf_38 hVt ⟨by omega, by omega⟩)]
    refine kt_v (pc' := 33) rfl <| ok_astore (pc' := 35) (ls' := [aR 101, aI 3, aI bf, aI p, aR (nulR A.R (r38 q t p)), w5, w6, w7, w8, w9]) i220_33 (bt rfl) rfl rfl <| ?_
    subst ht
    refine w220_35 (a0 := a) hYt hA (by have := hfr.n; omega) ⟨hp.1, by omega⟩ hw5 hw6 hw7 hw8 hw9 (fun g5 M5 w4 w5 w6 w7 w8 w9 hw4 hw5 hw6 hw7 hw8 hw9 hY5 f5 => ?_)
    refine ok_iinc (pc' := 118) (v := (p + 1)) (ls' := [aR 101, aI 3, aI bf, aI (p + 1), w4, w5, w6, w7, w8, w9]) i220_115 rfl rfl rfl rfl <| ok_goto (pc' := 9) i220_118 rfl <| ?_
    refine ih (p + 1) _ _ _ (by omega) ⟨by omega, ?_, Fr.w (Fr.trans hfr f5) (by omega) (by omega), w4, w5, w6, w7, w8, w9, hw4, hw5, hw6, hw7, hw8, hw9, rfl⟩
    rw [show (p + 1).toNat = p.toNat + 1 by omega]
    show Yd _ _ O A (pfX q (0 + (p.toNat : Int)) (itv (pfX q) (s, 0) 0 p.toNat)).1 q
    rw [show (0 : Int) + (p.toNat : Int) = p by omega, ← ha]
    exact hY5
def i241 (s : Int → Int) (y : Int) : Int := itv (f241 s y) (-1) 0 (s 4).toNat
def dnP (s : Int → Int) (o : Int) : Prop := 0 < s ((414 + (8 * o)) + 4) ∧ r213 s (s (414 + (8 * o))) 0 ≠ -1
def dnK (s : Int → Int) (y o : Int) : Int := if y = 0 then s ((414 + (8 * o)) + 3) else -(s (414 + (8 * o)))
theorem i241_fst {b y : Int} {q s : Int → Int} (hV : Val b q s) : Fst (dnP s) (dnK s y) 0 (s 4) (i241 s y) := by
  have y4 := V_4 hV
  have h := itv_inv (f := f241 s y) (a0 := -1) (lo := 0) (fun i a => 0 ≤ i ∧ Fst (dnP s) (dnK s y) 0 i a) ⟨by omega, Fst.nil (by omega)⟩ (s 4).toNat (fun i a h0 h1 hF => ⟨by omega, ?_⟩)
  · rw [show (0 : Int) + (((s 4).toNat : Nat) : Int) = s 4 by omega] at h
    exact h.2
  · have hF := hF.2
    unfold f241
    split
    · exact hF.skip (fun hp => by unfold dnP at hp; omega)
    · next c1 =>
      split
      · next c2 =>
        have hP : dnP s i := ⟨by omega, c2⟩
        split
        · next c => exact hF.take (Int.le_refl 0) h0 hP (Or.inl c)
        · next c =>
          split
          · next c3 =>
            split
            · exact hF.keep c (by unfold dnK; rw [if_neg c3, if_neg c3]; omega)
            · exact hF.take (Int.le_refl 0) h0 hP (Or.inr (by unfold dnK; rw [if_neg c3, if_neg c3]; omega))
          · next c3 =>
            split
            · exact hF.keep c (by unfold dnK; rw [if_pos (by omega), if_pos (by omega)]; omega)
            · exact hF.take (Int.le_refl 0) h0 hP (Or.inr (by unfold dnK; rw [if_pos (by omega), if_pos (by omega)]; omega))
      · next c2 => exact hF.skip (fun hp => c2 hp.2)
theorem RowV1 {x : Int} (h : 1 ≤ x ∧ x ≤ 200) : RowV 1 (upI (fun _ => 0) 0 x) := ⟨by omega, fun i i0 i1 => by rw [show i = 0 by omega, upI_eq]; exact h⟩
theorem i241_47 {b y : Int} {q s : Int → Int} (hV : Val b q s) : (i241 s y = -1 ↔ r47 s y = -1) ∧ (i241 s y ≠ -1 → s (414 + (8 * i241 s y)) = r47 s y) := by
  have e := e_47 hV y
  have e2 : r241 s y = if i241 s y ≠ -1 then s (414 + (8 * i241 s y)) else 0 := rfl
  have hrg := (i241_fst (y := y) hV).rg (by omega)
  rw [e2] at e
  by_cases h : i241 s y = -1
  · refine ⟨⟨fun _ => ?_, fun _ => h⟩, fun h' => absurd h h'⟩
    rw [if_neg (by omega)] at e
    by_cases h2 : r47 s y = -1
    · exact h2
    · have := (p_next hV h2).2.1
      rw [if_neg h2] at e
      omega
  · have z := V_o0 hV (i := i241 s y) (by omega) (by omega)
    rw [if_pos h] at e
    by_cases h2 : r47 s y = -1
    · rw [if_pos h2] at e; omega
    · rw [if_neg h2] at e
      exact ⟨⟨fun h' => absurd h' h, fun h' => absurd h' h2⟩, fun _ => e⟩
theorem w220_151 {g : AG} {M : AM} {O : Nat} {A : YA} {s q : Int → Int} {b : Int} {x1 bf y : Int} {w7 w8 w9 : AV} {Q : AO → AG → AM → Prop} (hY : Yd g M O A s q) (hV : Val b q s) (hy : 0 ≤ y ∧ y ≤ 2) (hw7 : am_cat w7 = 1) (hw8 : am_cat w8 = 1) (hw9 : am_cat w9 = 1) (K : ∀ (g1 : AG) (M1 : AM) (w7 : AV), am_cat w7 = 1 → Yd g1 M1 O A s q → Fr FN 16 16 g M g1 M1 → Ok 2 220 243 [aR 101, aI x1, aI bf, aI y, aI 1, aR (nulR A.D (i241 s y)), aI (-1), w7, w8, w9] [] g1 M1 Q) : Ok 2 220 151 [aR 101, aI x1, aI bf, aI y, aI 1, aR 0, aI (s 4 - 1), w7, w8, w9] [] g M Q := by
  have hQ := V_q hV
  have y3 := V_3 hV
  have y4 := V_4 hV
  have y5 := V_5 hV
  have yq0 := Q_0 hQ
  have yq1 := Q_1 hQ
  refine ok_lp (σ := Int × Int) (fun z ls g9 M9 => (-1 ≤ z.1 ∧ z.1 < s 4) ∧ Fst (dnP s) (dnK s y) (z.1 + 1) (s 4) z.2 ∧ Yd g9 M9 O A s q ∧ Fr FN (s 4 - 1 - z.1).toNat (s 4 - 1 - z.1).toNat g M g9 M9 ∧ ∃ w7 : AV, am_cat w7 = 1 ∧ ls = [aR 101, aI x1, aI bf, aI y, aI 1, aR (nulR A.D z.2), aI z.1, w7, w8, w9]) (fun z => (z.1 + 1).toNat) ?_ (s 4 - 1, -1) _ g M ⟨by show -1 ≤ s 4 - 1 ∧ s 4 - 1 < s 4; omega, Fst.nil (by show s 4 ≤ s 4 - 1 + 1; omega), hY, Fr.w Fr.rfl (by omega) (by omega), w7, hw7, by rw [nulR_0]⟩
  rintro ⟨k, a⟩ ls g9 M9 ⟨hk, hF, hYt, hfr, w7, hw7, rfl⟩ ih
  dsimp only at *
  by_cases hb : a = -1
  · subst hb
    rw [nulR_0]
    refine ok_iload (pc' := 153) i220_151 rfl rfl <| ?_
    refine ok_zlt (pc1 := 243) (pc2 := 156) i220_153 (by omega) rfl rfl (fun h1 => ?_) (fun h1 => ?_)
    · rw [show k = -1 by omega] at hF ⊢
      rw [show (0 : Nat) = nulR A.D (i241 s y) by rw [← Fst.uniq (by omega) hF (i241_fst hV), nulR_0]]
      exact K _ _ _ hw7 hYt (Fr.w hfr (by omega) (by omega))
    · refine ok_aloadn (pc' := 157) i220_156 rfl rfl <| ok_getfr (r := 108) (pc' := 160) i220_157 o220 gr17_40 (hYt.gr.ky) (hYt.gr.r5) rfl <| ok_iload (pc' := 162) i220_160 rfl rfl <| ok_aaload (r := (A.D k)) (pc' := 163) i220_162 (hYt.gr.k8) (by decide) (hYt.gr.l8) (by omega) ((hYt.gr.dd k (by omega) (by omega)).1) rfl <| ok_astore (pc' := 165) (ls' := [aR 101, aI x1, aI bf, aI y, aI 1, aR 0, aI k, aR (A.D k), w8, w9]) i220_163 (bt rfl) rfl rfl <| ok_aload (pc' := 167) i220_165 rfl rfl <| ?_
      have z2 : 0 ≤ s ((414 + (8 * k)) + 4) ∧ s ((414 + (8 * k)) + 4) ≤ 9 := V_o4 hV (by omega) (by omega)
      refine ok_getfi (v := (s ((414 + (8 * k)) + 4))) (pc' := 170) i220_167 o220 gi17_127 ((hYt.gr.dd k (by omega) (by omega)).2.2) ((Yd.d5 hYt (k := k) (by omega) (by omega))) rfl <| ?_
      refine ok_zeq (pc1 := 237) (pc2 := 173) i220_170 (by omega) rfl rfl (fun h3 => ?_) (fun h3 => ?_)
      · refine ok_iinc (pc' := 240) (v := (k + (-1))) (ls' := [aR 101, aI x1, aI bf, aI y, aI 1, aR 0, aI (k + (-1)), aR (A.D k), w8, w9]) i220_237 rfl rfl rfl rfl <| ok_goto (pc' := 151) i220_240 rfl <| ?_
        refine ih (k + -1, (-1)) _ _ _ (by show (k + -1 + 1).toNat < (k + 1).toNat; omega) ⟨by show -1 ≤ k + -1 ∧ k + -1 < s 4; omega, ?_, hYt, by show Fr FN (s 4 - 1 - (k + -1)).toNat (s 4 - 1 - (k + -1)).toNat g M _ _; exact Fr.w hfr (by omega) (by omega), _, rfl, by show _ = [aR 101, aI x1, aI bf, aI y, aI 1, aR (nulR A.D (-1)), aI (k + -1), _, w8, w9]; rw [nulR_0]⟩
        show Fst (dnP s) (dnK s y) (k + -1 + 1) (s 4) (-1)
        rw [show k + -1 + 1 = k by omega]
        first | exact hF.dskip (fun hp => by have h1 := hp.1; have h2 := hp.2; omega) | exact hF.dtake (by omega) (by omega) ⟨by omega, by omega⟩ (Or.inl rfl) | exact hF.dtake (by omega) (by omega) ⟨by omega, by omega⟩ (Or.inr (by unfold dnK; (repeat' split) <;> omega)) | exact hF.dkeep (by omega) (by unfold dnK; (repeat' split) <;> omega)
      · refine ok_aloadn (pc' := 174) i220_173 rfl rfl <| ok_iconst (pc' := 175) i220_174 rfl <| ?_
        refine ok_nia (pc' := 177) i220_175 (by decide) rfl (fun xr4 g4 M4 hx4 hn4 hA4 e4 => ?_)
        have hYa4 := Yd.f0 hYt e4
        have hl4 : xr4 < 100 + gN g4 := by omega
        refine ok_dup (pc' := 178) i220_177 rfl rfl <| ok_iconst (pc' := 179) i220_178 rfl <| ok_aload (pc' := 181) i220_179 rfl rfl <| ?_
        have z5 : 1 ≤ s (414 + (8 * k)) ∧ s (414 + (8 * k)) ≤ 200 := V_o0 hV (by omega) (by omega)
        refine ok_getfi (v := (s (414 + (8 * k)))) (pc' := 184) i220_181 o220 gi17_148 ((hYa4.gr.dd k (by omega) (by omega)).2.2) ((Yd.d1 hYa4 (k := k) (by omega) (by omega))) rfl <| ?_
        have b6 := hA4.2.1
        refine ok_iastore (pc' := 185) i220_184 (hA4.1) (rfl) (by omega) rfl <| ?_
        have e7 := Fr.up (x := 0) (v := (s (414 + (8 * k)))) e4 (Or.inr (Nat.le_of_eq hx4))
        have hYa7 := Yd.f0 hYt e7
        have hA7 := IA.up (x := 0) (v := (s (414 + (8 * k)))) hA4
        refine ok_iconst (pc' := 186) i220_185 rfl <| ?_
        refine ok_cc i220_186 rfl (cl_v o220 m17_190 na199 rfl rfl (bt rfl) (bt rfl) rfl (by rw [hYa7.gr.ky, o199])) ln199 (pd199 (aR 101) (aR xr4) (aI 0)) <| (Ok.deep (t199 (x2 := 0) hYa7 hV hA7 (RowV1 ⟨by omega, by omega⟩) ⟨by omega, by omega⟩) (by omega)).mono (fun o9 g5c M5c p5c => ?_)
        obtain ⟨eg5, em5, a5r, hF5, rfl⟩ := p5c
        have hG5 := rf_213 (p := 0) hV (f := (upI (fun _ => 0) 0 (s (414 + (8 * k))))) (x := (s (414 + (8 * k)))) upI_eq (by omega) ⟨by omega, by omega⟩
        rw [eg5, em5, Fst.uniq (by omega) hF5 hG5]
        have hH5 := hG5.rg (by omega)
        refine kt_v (pc' := 189) rfl <| ?_
        by_cases u8 : (r213 s (s (414 + (8 * k))) 0) = -1
        · rw [show nulR A.R (r213 s (s (414 + (8 * k))) 0) = 0 by rw [u8, nulR_0]]
          refine ok_ifnn1 (pc1 := 192) i220_189 (by decide) rfl <| ok_goto (pc' := 237) i220_192 rfl <| ok_iinc (pc' := 240) (v := (k + (-1))) (ls' := [aR 101, aI x1, aI bf, aI y, aI 1, aR 0, aI (k + (-1)), aR (A.D k), w8, w9]) i220_237 rfl rfl rfl rfl <| ok_goto (pc' := 151) i220_240 rfl <| ?_
          refine ih (k + -1, (-1)) _ _ _ (by show (k + -1 + 1).toNat < (k + 1).toNat; omega) ⟨by show -1 ≤ k + -1 ∧ k + -1 < s 4; omega, ?_, hYa7, by show Fr FN (s 4 - 1 - (k + -1)).toNat (s 4 - 1 - (k + -1)).toNat g M _ _; exact Fr.w (Fr.trans hfr e7) (by omega) (by omega), _, rfl, by show _ = [aR 101, aI x1, aI bf, aI y, aI 1, aR (nulR A.D (-1)), aI (k + -1), _, w8, w9]; rw [nulR_0]⟩
          show Fst (dnP s) (dnK s y) (k + -1 + 1) (s 4) (-1)
          rw [show k + -1 + 1 = k by omega]
          first | exact hF.dskip (fun hp => by have h1 := hp.1; have h2 := hp.2; omega) | exact hF.dtake (by omega) (by omega) ⟨by omega, by omega⟩ (Or.inl rfl) | exact hF.dtake (by omega) (by omega) ⟨by omega, by omega⟩ (Or.inr (by unfold dnK; (repeat' split) <;> omega)) | exact hF.dkeep (by omega) (by unfold dnK; (repeat' split) <;> omega)
        · rw [show nulR A.R (r213 s (s (414 + (8 * k))) 0) = A.R (r213 s (s (414 + (8 * k))) 0) from nulR_1 u8]
          have z9 : 0 ≤ (r213 s (s (414 + (8 * k))) 0) ∧ (r213 s (s (414 + (8 * k))) 0) < s 3 := by omega
          refine ok_ifnn0 (pc1 := 195) i220_189 (Or.inl (Nat.le_trans (by decide) (hYa7.gr.rr (r213 s (s (414 + (8 * k))) 0) (by omega) (by omega)).2.1.1)) rfl <| ok_aload (pc' := 197) i220_195 rfl rfl <| ok_ifnull1 (pc1 := 233) i220_197 rfl <| ok_aload (pc' := 235) i220_233 rfl rfl <| ok_astore (pc' := 237) (ls' := [aR 101, aI x1, aI bf, aI y, aI 1, aR (A.D k), aI k, aR (A.D k), w8, w9]) i220_235 (bt rfl) rfl rfl <| ok_iinc (pc' := 240) (v := (k + (-1))) (ls' := [aR 101, aI x1, aI bf, aI y, aI 1, aR (A.D k), aI (k + (-1)), aR (A.D k), w8, w9]) i220_237 rfl rfl rfl rfl <| ok_goto (pc' := 151) i220_240 rfl <| ?_
          refine ih (k + -1, k) _ _ _ (by show (k + -1 + 1).toNat < (k + 1).toNat; omega) ⟨by show -1 ≤ k + -1 ∧ k + -1 < s 4; omega, ?_, hYa7, by show Fr FN (s 4 - 1 - (k + -1)).toNat (s 4 - 1 - (k + -1)).toNat g M _ _; exact Fr.w (Fr.trans hfr e7) (by omega) (by omega), _, rfl, by show _ = [aR 101, aI x1, aI bf, aI y, aI 1, aR (nulR A.D k), aI (k + -1), _, w8, w9]; rw [nulR_1 (by omega)]⟩
          show Fst (dnP s) (dnK s y) (k + -1 + 1) (s 4) k
          rw [show k + -1 + 1 = k by omega]
          first | exact hF.dskip (fun hp => by have h1 := hp.1; have h2 := hp.2; omega) | exact hF.dtake (by omega) (by omega) ⟨by omega, by omega⟩ (Or.inl rfl) | exact hF.dtake (by omega) (by omega) ⟨by omega, by omega⟩ (Or.inr (by unfold dnK; (repeat' split) <;> omega)) | exact hF.dkeep (by omega) (by unfold dnK; (repeat' split) <;> omega)
  · rw [nulR_1 hb]
    have ha : 0 ≤ a ∧ a < s 4 := by have := hF.rg (by omega); omega
    refine ok_iload (pc' := 153) i220_151 rfl rfl <| ?_
    refine ok_zlt (pc1 := 243) (pc2 := 156) i220_153 (by omega) rfl rfl (fun h1 => ?_) (fun h1 => ?_)
    · rw [show k = -1 by omega] at hF ⊢
      rw [show A.D a = nulR A.D (i241 s y) by rw [← Fst.uniq (by omega) hF (i241_fst hV), nulR_1 hb]]
      exact K _ _ _ hw7 hYt (Fr.w hfr (by omega) (by omega))
    · refine ok_aloadn (pc' := 157) i220_156 rfl rfl <| ok_getfr (r := 108) (pc' := 160) i220_157 o220 gr17_40 (hYt.gr.ky) (hYt.gr.r5) rfl <| ok_iload (pc' := 162) i220_160 rfl rfl <| ok_aaload (r := (A.D k)) (pc' := 163) i220_162 (hYt.gr.k8) (by decide) (hYt.gr.l8) (by omega) ((hYt.gr.dd k (by omega) (by omega)).1) rfl <| ok_astore (pc' := 165) (ls' := [aR 101, aI x1, aI bf, aI y, aI 1, aR (A.D a), aI k, aR (A.D k), w8, w9]) i220_163 (bt rfl) rfl rfl <| ok_aload (pc' := 167) i220_165 rfl rfl <| ?_
      have z2 : 0 ≤ s ((414 + (8 * k)) + 4) ∧ s ((414 + (8 * k)) + 4) ≤ 9 := V_o4 hV (by omega) (by omega)
      refine ok_getfi (v := (s ((414 + (8 * k)) + 4))) (pc' := 170) i220_167 o220 gi17_127 ((hYt.gr.dd k (by omega) (by omega)).2.2) ((Yd.d5 hYt (k := k) (by omega) (by omega))) rfl <| ?_
      refine ok_zeq (pc1 := 237) (pc2 := 173) i220_170 (by omega) rfl rfl (fun h3 => ?_) (fun h3 => ?_)
      · refine ok_iinc (pc' := 240) (v := (k + (-1))) (ls' := [aR 101, aI x1, aI bf, aI y, aI 1, aR (A.D a), aI (k + (-1)), aR (A.D k), w8, w9]) i220_237 rfl rfl rfl rfl <| ok_goto (pc' := 151) i220_240 rfl <| ?_
        refine ih (k + -1, a) _ _ _ (by show (k + -1 + 1).toNat < (k + 1).toNat; omega) ⟨by show -1 ≤ k + -1 ∧ k + -1 < s 4; omega, ?_, hYt, by show Fr FN (s 4 - 1 - (k + -1)).toNat (s 4 - 1 - (k + -1)).toNat g M _ _; exact Fr.w hfr (by omega) (by omega), _, rfl, by show _ = [aR 101, aI x1, aI bf, aI y, aI 1, aR (nulR A.D a), aI (k + -1), _, w8, w9]; rw [nulR_1 (by omega)]⟩
        show Fst (dnP s) (dnK s y) (k + -1 + 1) (s 4) a
        rw [show k + -1 + 1 = k by omega]
        first | exact hF.dskip (fun hp => by have h1 := hp.1; have h2 := hp.2; omega) | exact hF.dtake (by omega) (by omega) ⟨by omega, by omega⟩ (Or.inl rfl) | exact hF.dtake (by omega) (by omega) ⟨by omega, by omega⟩ (Or.inr (by unfold dnK; (repeat' split) <;> omega)) | exact hF.dkeep (by omega) (by unfold dnK; (repeat' split) <;> omega)
      · refine ok_aloadn (pc' := 174) i220_173 rfl rfl <| ok_iconst (pc' := 175) i220_174 rfl <| ?_
        refine ok_nia (pc' := 177) i220_175 (by decide) rfl (fun xr4 g4 M4 hx4 hn4 hA4 e4 => ?_)
        have hYa4 := Yd.f0 hYt e4
        have hl4 : xr4 < 100 + gN g4 := by omega
        refine ok_dup (pc' := 178) i220_177 rfl rfl <| ok_iconst (pc' := 179) i220_178 rfl <| ok_aload (pc' := 181) i220_179 rfl rfl <| ?_
        have z5 : 1 ≤ s (414 + (8 * k)) ∧ s (414 + (8 * k)) ≤ 200 := V_o0 hV (by omega) (by omega)
        refine ok_getfi (v := (s (414 + (8 * k)))) (pc' := 184) i220_181 o220 gi17_148 ((hYa4.gr.dd k (by omega) (by omega)).2.2) ((Yd.d1 hYa4 (k := k) (by omega) (by omega))) rfl <| ?_
        have b6 := hA4.2.1
        refine ok_iastore (pc' := 185) i220_184 (hA4.1) (rfl) (by omega) rfl <| ?_
        have e7 := Fr.up (x := 0) (v := (s (414 + (8 * k)))) e4 (Or.inr (Nat.le_of_eq hx4))
        have hYa7 := Yd.f0 hYt e7
        have hA7 := IA.up (x := 0) (v := (s (414 + (8 * k)))) hA4
        refine ok_iconst (pc' := 186) i220_185 rfl <| ?_
        refine ok_cc i220_186 rfl (cl_v o220 m17_190 na199 rfl rfl (bt rfl) (bt rfl) rfl (by rw [hYa7.gr.ky, o199])) ln199 (pd199 (aR 101) (aR xr4) (aI 0)) <| (Ok.deep (t199 (x2 := 0) hYa7 hV hA7 (RowV1 ⟨by omega, by omega⟩) ⟨by omega, by omega⟩) (by omega)).mono (fun o9 g6c M6c p6c => ?_)
        obtain ⟨eg6, em6, a6r, hF6, rfl⟩ := p6c
        have hG6 := rf_213 (p := 0) hV (f := (upI (fun _ => 0) 0 (s (414 + (8 * k))))) (x := (s (414 + (8 * k)))) upI_eq (by omega) ⟨by omega, by omega⟩
        rw [eg6, em6, Fst.uniq (by omega) hF6 hG6]
        have hH6 := hG6.rg (by omega)
        refine kt_v (pc' := 189) rfl <| ?_
        by_cases u8 : (r213 s (s (414 + (8 * k))) 0) = -1
        · rw [show nulR A.R (r213 s (s (414 + (8 * k))) 0) = 0 by rw [u8, nulR_0]]
          refine ok_ifnn1 (pc1 := 192) i220_189 (by decide) rfl <| ok_goto (pc' := 237) i220_192 rfl <| ok_iinc (pc' := 240) (v := (k + (-1))) (ls' := [aR 101, aI x1, aI bf, aI y, aI 1, aR (A.D a), aI (k + (-1)), aR (A.D k), w8, w9]) i220_237 rfl rfl rfl rfl <| ok_goto (pc' := 151) i220_240 rfl <| ?_
          refine ih (k + -1, a) _ _ _ (by show (k + -1 + 1).toNat < (k + 1).toNat; omega) ⟨by show -1 ≤ k + -1 ∧ k + -1 < s 4; omega, ?_, hYa7, by show Fr FN (s 4 - 1 - (k + -1)).toNat (s 4 - 1 - (k + -1)).toNat g M _ _; exact Fr.w (Fr.trans hfr e7) (by omega) (by omega), _, rfl, by show _ = [aR 101, aI x1, aI bf, aI y, aI 1, aR (nulR A.D a), aI (k + -1), _, w8, w9]; rw [nulR_1 (by omega)]⟩
          show Fst (dnP s) (dnK s y) (k + -1 + 1) (s 4) a
          rw [show k + -1 + 1 = k by omega]
          first | exact hF.dskip (fun hp => by have h1 := hp.1; have h2 := hp.2; omega) | exact hF.dtake (by omega) (by omega) ⟨by omega, by omega⟩ (Or.inl rfl) | exact hF.dtake (by omega) (by omega) ⟨by omega, by omega⟩ (Or.inr (by unfold dnK; (repeat' split) <;> omega)) | exact hF.dkeep (by omega) (by unfold dnK; (repeat' split) <;> omega)
        · rw [show nulR A.R (r213 s (s (414 + (8 * k))) 0) = A.R (r213 s (s (414 + (8 * k))) 0) from nulR_1 u8]
          have z9 : 0 ≤ (r213 s (s (414 + (8 * k))) 0) ∧ (r213 s (s (414 + (8 * k))) 0) < s 3 := by omega
          refine ok_ifnn0 (pc1 := 195) i220_189 (Or.inl (Nat.le_trans (by decide) (hYa7.gr.rr (r213 s (s (414 + (8 * k))) 0) (by omega) (by omega)).2.1.1)) rfl <| ok_aload (pc' := 197) i220_195 rfl rfl <| ok_ifnull0 (pc1 := 200) i220_197 (Or.inl (Nat.le_trans (by decide) (hYa7.gr.dd a (by omega) (by omega)).2.1.1)) (by decide) rfl <| ok_iloadn (pc' := 201) i220_200 rfl rfl <| ?_
          refine ok_zne (pc1 := 220) (pc2 := 204) i220_201 (by omega) rfl rfl (fun h10 => ?_) (fun h10 => ?_)
          · refine ok_aload (pc' := 222) i220_220 rfl rfl <| ok_getfi (v := (s (414 + (8 * k)))) (pc' := 225) i220_222 o220 gi17_148 ((hYa7.gr.dd k (by omega) (by omega)).2.2) ((Yd.d1 hYa7 (k := k) (by omega) (by omega))) rfl <| ok_aload (pc' := 227) i220_225 rfl rfl <| ?_
            have z11 : 1 ≤ s (414 + (8 * a)) ∧ s (414 + (8 * a)) ≤ 200 := V_o0 hV (by omega) (by omega)
            refine ok_getfi (v := (s (414 + (8 * a)))) (pc' := 230) i220_227 o220 gi17_148 ((hYa7.gr.dd a (by omega) (by omega)).2.2) ((Yd.d1 hYa7 (k := a) (by omega) (by omega))) rfl <| ?_
            refine ok_clt (pc1 := 237) (pc2 := 233) i220_230 (by omega) rfl rfl (fun h12 => ?_) (fun h12 => ?_)
            · refine ok_iinc (pc' := 240) (v := (k + (-1))) (ls' := [aR 101, aI x1, aI bf, aI y, aI 1, aR (A.D a), aI (k + (-1)), aR (A.D k), w8, w9]) i220_237 rfl rfl rfl rfl <| ok_goto (pc' := 151) i220_240 rfl <| ?_
              refine ih (k + -1, a) _ _ _ (by show (k + -1 + 1).toNat < (k + 1).toNat; omega) ⟨by show -1 ≤ k + -1 ∧ k + -1 < s 4; omega, ?_, hYa7, by show Fr FN (s 4 - 1 - (k + -1)).toNat (s 4 - 1 - (k + -1)).toNat g M _ _; exact Fr.w (Fr.trans hfr e7) (by omega) (by omega), _, rfl, by show _ = [aR 101, aI x1, aI bf, aI y, aI 1, aR (nulR A.D a), aI (k + -1), _, w8, w9]; rw [nulR_1 (by omega)]⟩
              show Fst (dnP s) (dnK s y) (k + -1 + 1) (s 4) a
              rw [show k + -1 + 1 = k by omega]
              first | exact hF.dskip (fun hp => by have h1 := hp.1; have h2 := hp.2; omega) | exact hF.dtake (by omega) (by omega) ⟨by omega, by omega⟩ (Or.inl rfl) | exact hF.dtake (by omega) (by omega) ⟨by omega, by omega⟩ (Or.inr (by unfold dnK; (repeat' split) <;> omega)) | exact hF.dkeep (by omega) (by unfold dnK; (repeat' split) <;> omega)
            · refine ok_aload (pc' := 235) i220_233 rfl rfl <| ok_astore (pc' := 237) (ls' := [aR 101, aI x1, aI bf, aI y, aI 1, aR (A.D k), aI k, aR (A.D k), w8, w9]) i220_235 (bt rfl) rfl rfl <| ok_iinc (pc' := 240) (v := (k + (-1))) (ls' := [aR 101, aI x1, aI bf, aI y, aI 1, aR (A.D k), aI (k + (-1)), aR (A.D k), w8, w9]) i220_237 rfl rfl rfl rfl <| ok_goto (pc' := 151) i220_240 rfl <| ?_
              refine ih (k + -1, k) _ _ _ (by show (k + -1 + 1).toNat < (k + 1).toNat; omega) ⟨by show -1 ≤ k + -1 ∧ k + -1 < s 4; omega, ?_, hYa7, by show Fr FN (s 4 - 1 - (k + -1)).toNat (s 4 - 1 - (k + -1)).toNat g M _ _; exact Fr.w (Fr.trans hfr e7) (by omega) (by omega), _, rfl, by show _ = [aR 101, aI x1, aI bf, aI y, aI 1, aR (nulR A.D k), aI (k + -1), _, w8, w9]; rw [nulR_1 (by omega)]⟩
              show Fst (dnP s) (dnK s y) (k + -1 + 1) (s 4) k
              rw [show k + -1 + 1 = k by omega]
              first | exact hF.dskip (fun hp => by have h1 := hp.1; have h2 := hp.2; omega) | exact hF.dtake (by omega) (by omega) ⟨by omega, by omega⟩ (Or.inl rfl) | exact hF.dtake (by omega) (by omega) ⟨by omega, by omega⟩ (Or.inr (by unfold dnK; (repeat' split) <;> omega)) | exact hF.dkeep (by omega) (by unfold dnK; (repeat' split) <;> omega)
          · refine ok_aload (pc' := 206) i220_204 rfl rfl <| ?_
            have z13 : 0 ≤ s ((414 + (8 * k)) + 3) ∧ s ((414 + (8 * k)) + 3) ≤ 999 := V_o3 hV (by omega) (by omega)
            refine ok_getfi (v := (s ((414 + (8 * k)) + 3))) (pc' := 209) i220_206 o220 gi17_136 ((hYa7.gr.dd k (by omega) (by omega)).2.2) ((Yd.d4 hYa7 (k := k) (by omega) (by omega))) rfl <| ok_aload (pc' := 211) i220_209 rfl rfl <| ?_
            have z14 : 0 ≤ s ((414 + (8 * a)) + 3) ∧ s ((414 + (8 * a)) + 3) ≤ 999 := V_o3 hV (by omega) (by omega)
            refine ok_getfi (v := (s ((414 + (8 * a)) + 3))) (pc' := 214) i220_211 o220 gi17_136 ((hYa7.gr.dd a (by omega) (by omega)).2.2) ((Yd.d4 hYa7 (k := a) (by omega) (by omega))) rfl <| ?_
            refine ok_cgt (pc1 := 237) (pc2 := 217) i220_214 (by omega) rfl rfl (fun h15 => ?_) (fun h15 => ?_)
            · refine ok_iinc (pc' := 240) (v := (k + (-1))) (ls' := [aR 101, aI x1, aI bf, aI y, aI 1, aR (A.D a), aI (k + (-1)), aR (A.D k), w8, w9]) i220_237 rfl rfl rfl rfl <| ok_goto (pc' := 151) i220_240 rfl <| ?_
              refine ih (k + -1, a) _ _ _ (by show (k + -1 + 1).toNat < (k + 1).toNat; omega) ⟨by show -1 ≤ k + -1 ∧ k + -1 < s 4; omega, ?_, hYa7, by show Fr FN (s 4 - 1 - (k + -1)).toNat (s 4 - 1 - (k + -1)).toNat g M _ _; exact Fr.w (Fr.trans hfr e7) (by omega) (by omega), _, rfl, by show _ = [aR 101, aI x1, aI bf, aI y, aI 1, aR (nulR A.D a), aI (k + -1), _, w8, w9]; rw [nulR_1 (by omega)]⟩
              show Fst (dnP s) (dnK s y) (k + -1 + 1) (s 4) a
              rw [show k + -1 + 1 = k by omega]
              first | exact hF.dskip (fun hp => by have h1 := hp.1; have h2 := hp.2; omega) | exact hF.dtake (by omega) (by omega) ⟨by omega, by omega⟩ (Or.inl rfl) | exact hF.dtake (by omega) (by omega) ⟨by omega, by omega⟩ (Or.inr (by unfold dnK; (repeat' split) <;> omega)) | exact hF.dkeep (by omega) (by unfold dnK; (repeat' split) <;> omega)
            · refine ok_goto (pc' := 233) i220_217 rfl <| ok_aload (pc' := 235) i220_233 rfl rfl <| ok_astore (pc' := 237) (ls' := [aR 101, aI x1, aI bf, aI y, aI 1, aR (A.D k), aI k, aR (A.D k), w8, w9]) i220_235 (bt rfl) rfl rfl <| ok_iinc (pc' := 240) (v := (k + (-1))) (ls' := [aR 101, aI x1, aI bf, aI y, aI 1, aR (A.D k), aI (k + (-1)), aR (A.D k), w8, w9]) i220_237 rfl rfl rfl rfl <| ok_goto (pc' := 151) i220_240 rfl <| ?_
              refine ih (k + -1, k) _ _ _ (by show (k + -1 + 1).toNat < (k + 1).toNat; omega) ⟨by show -1 ≤ k + -1 ∧ k + -1 < s 4; omega, ?_, hYa7, by show Fr FN (s 4 - 1 - (k + -1)).toNat (s 4 - 1 - (k + -1)).toNat g M _ _; exact Fr.w (Fr.trans hfr e7) (by omega) (by omega), _, rfl, by show _ = [aR 101, aI x1, aI bf, aI y, aI 1, aR (nulR A.D k), aI (k + -1), _, w8, w9]; rw [nulR_1 (by omega)]⟩
              show Fst (dnP s) (dnK s y) (k + -1 + 1) (s 4) k
              rw [show k + -1 + 1 = k by omega]
              first | exact hF.dskip (fun hp => by have h1 := hp.1; have h2 := hp.2; omega) | exact hF.dtake (by omega) (by omega) ⟨by omega, by omega⟩ (Or.inl rfl) | exact hF.dtake (by omega) (by omega) ⟨by omega, by omega⟩ (Or.inr (by unfold dnK; (repeat' split) <;> omega)) | exact hF.dkeep (by omega) (by unfold dnK; (repeat' split) <;> omega)
