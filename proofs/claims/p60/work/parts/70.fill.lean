/-! FILL (by program, wip/p60/gen) -/
theorem o220 : am_oc 220 = 17 := by decide +kernel
theorem m17_198 : am_mlk 17 198 0 203 = true := by decide +kernel
theorem na203 : am_na 203 = 2 := by decide +kernel
theorem nl203 : am_nL 203 = 6 := by decide +kernel
theorem pd203 : ∀ a0 a1 a2 : AV, am_pad 203 [a0, a1, a2] = [a0, a1, a2, aU, aU, aU] := by intros; unfold am_pad; rw [nl203]; rfl
theorem ln203 : 3 ≤ am_nL 203 := by rw [nl203]; decide
theorem gr17_26 : am_gfr 17 26 17 2 = true := by decide +kernel
theorem m17_194 : am_mlk 17 194 0 201 = true := by decide +kernel
theorem na201 : am_na 201 = 1 := by decide +kernel
theorem nl201 : am_nL 201 = 8 := by decide +kernel
theorem pd201 : ∀ a0 a1 : AV, am_pad 201 [a0, a1] = [a0, a1, aU, aU, aU, aU, aU, aU] := by intros; unfold am_pad; rw [nl201]; rfl
theorem ln201 : 2 ≤ am_nL 201 := by rw [nl201]; decide
theorem m17_190 : am_mlk 17 190 0 199 = true := by decide +kernel
theorem na199 : am_na 199 = 2 := by decide +kernel
theorem nl199 : am_nL 199 = 5 := by decide +kernel
theorem pd199 : ∀ a0 a1 a2 : AV, am_pad 199 [a0, a1, a2] = [a0, a1, a2, aU, aU] := by intros; unfold am_pad; rw [nl199]; rfl
theorem ln199 : 3 ≤ am_nL 199 := by rw [nl199]; decide
theorem w220_69 {g : AG} {M : AM} {O : Nat} {A : YA} {q : Int → Int} {b : Int} {u : Int → Int} {p r x1 bf i0 : Int} {w8 w9 : AV} {Q : AO → AG → AM → Prop} (hY : Yd g M O A u q) (hV : Val b q u) (hO : O + 348 ≤ 100 + gN g) (hp : 0 ≤ p ∧ p < q 1) (hr : 0 ≤ r ∧ r < u 3) (h37 : r37 q u p r ≠ -1) (h39 : r39 q u p ≠ 0) (hw8 : am_cat w8 = 1) (hw9 : am_cat w9 = 1) (K : ∀ (g1 : AG) (M1 : AM) (w8 w9 : AV), am_cat w8 = 1 → am_cat w9 = 1 → Yd g1 M1 O A (patS q u p r) q → Fr (FY O) 6 24 g M g1 M1 → Ok 2 220 99 [aR 101, aI x1, aI bf, aI p, aR (A.R r), aR (A.P p), aI (q (10 + p)), aI (q (10 + p)), w8, w9] [] g1 M1 Q) : Ok 2 220 69 [aR 101, aI x1, aI bf, aI p, aR (A.R r), aR (A.P p), aI (q (10 + p)), aI 0, w8, w9] [] g M Q := by
  have z10 := Q_10 (V_q hV) hp.1 hp.2
  refine ok_lp (σ := Int) (fun i ls g9 M9 => (0 ≤ i ∧ i ≤ q (10 + p)) ∧ Yd g9 M9 O A (itv (patF q p r) (u, 0) 0 i.toNat).1 q ∧ Fr (FY O) i.toNat (4 * i.toNat) g M g9 M9 ∧ ∃ w8 w9 : AV, am_cat w8 = 1 ∧ am_cat w9 = 1 ∧ ls = [aR 101, aI x1, aI bf, aI p, aR (A.R r), aR (A.P p), aI (q (10 + p)), aI i, w8, w9]) (fun i => (q (10 + p) - i).toNat) ?_ 0 _ g M ⟨⟨by omega, by omega⟩, hY, Fr.rfl, w8, w9, hw8, hw9, rfl⟩
  rintro i ls g9 M9 ⟨hi, hYt, hfr, w8, w9, hw8, hw9, rfl⟩ ih
  have hpi := pat_inv hV hp hr h37 h39 i.toNat (by omega)
  have hpf := fun (h : i < q (10 + p)) => pfit h37 (k := i) ⟨hi.1, h⟩ hpi.2.1
  obtain ⟨t, ht⟩ : ∃ t : Int → Int, t = (itv (patF q p r) (u, 0) 0 i.toNat).1 := ⟨_, rfl⟩
  rw [← ht] at hYt hpi hpf
  have hVt := hpi.1
  have ht3 := hpi.2.2.2.1
  have hn9 := hfr.n
  have hQ := V_q hVt
  have y3 := V_3 hVt
  have y4 := V_4 hVt
  have y5 := V_5 hVt
  have yq0 := Q_0 hQ
  have yq1 := Q_1 hQ
  have hrt : 0 ≤ r ∧ r < t 3 := by omega
  have zt := V_d1 hVt hrt.1 hrt.2
  have e0 : Fr (FY O) 0 0 g9 M9 g9 M9 := Fr.rfl
  refine ok_iload (pc' := 71) i220_69 rfl rfl <| ok_iload (pc' := 73) i220_71 rfl rfl <| ?_
  refine ok_cge (pc1 := 99) (pc2 := 76) i220_73 (by omega) rfl rfl (fun h1 => ?_) (fun h1 => ?_)
  · rw [show i = q (10 + p) by omega] at ht hfr ⊢
    exact K _ _ _ _ hw8 hw9 (by unfold patS patL; rw [← ht]; exact hYt) (Fr.w hfr (by omega) (by omega))
  · refine ok_aload (pc' := 78) i220_76 rfl rfl <| ok_iload (pc' := 80) i220_78 rfl rfl <| ?_
    have b2 := (hYt.gr.pp p (by omega) (by omega)).2.2.2
    have z3 : 1 ≤ q (16 + ((6 * p) + i)) ∧ q (16 + ((6 * p) + i)) ≤ 200 := Q_16 hQ (by omega) (by omega) (by omega) (by omega)
    refine ok_iaload (v := (q (16 + ((6 * p) + i)))) (pc' := 81) i220_80 ((hYt.gr.pp p (by omega) (by omega)).2.2.1) (by decide) (rfl) (by omega) ((hYt.mr.pp p (by omega) (by omega) i (by omega) (by omega))) rfl <| ok_istore (pc' := 83) (ls' := [aR 101, aI x1, aI bf, aI p, aR (A.R r), aR (A.P p), aI (q (10 + p)), aI i, aI (q (16 + ((6 * p) + i))), w9]) i220_81 (bt rfl) rfl rfl <| ok_aloadn (pc' := 84) i220_83 rfl rfl <| ok_aload (pc' := 86) i220_84 rfl rfl <| ok_iload (pc' := 88) i220_86 rfl rfl <| ?_
    have hfit := hpf (by omega)
    refine ok_cc i220_88 rfl (cl_v o220 m17_198 na203 rfl rfl (bt rfl) (bt rfl) rfl (by rw [hYt.gr.ky, o203])) ln203 (pd203 (aR 101) (aR (A.R r)) (aI (q (16 + ((6 * p) + i))))) <| (Ok.deep (t203 (x := (q (16 + ((6 * p) + i)))) hYt hVt (by have := hO; omega) ⟨by omega, by omega⟩ ⟨by omega, by omega⟩) (by omega)).mono (fun o9 g1c M1c p1c => ?_)
    obtain ⟨rfl, hY1c, f1c⟩ := p1c
    refine kt_v (pc' := 91) rfl <| ok_istore (pc' := 93) (ls' := [aR 101, aI x1, aI bf, aI p, aR (A.R r), aR (A.P p), aI (q (10 + p)), aI i, aI (q (16 + ((6 * p) + i))), aI (r218 t (q (16 + ((6 * p) + i))))]) i220_91 (bt rfl) rfl rfl <| ok_iinc (pc' := 96) (v := (i + 1)) (ls' := [aR 101, aI x1, aI bf, aI p, aR (A.R r), aR (A.P p), aI (q (10 + p)), aI (i + 1), aI (q (16 + ((6 * p) + i))), aI (r218 t (q (16 + ((6 * p) + i))))]) i220_93 rfl rfl rfl rfl <| ok_goto (pc' := 69) i220_96 rfl <| ?_
    refine ih (i + 1) _ _ _ (by omega) ⟨by omega, ?_, Fr.w (Fr.trans hfr f1c) (by omega) (by omega), _, _, rfl, rfl, rfl⟩
    rw [show (i + 1).toNat = i.toNat + 1 by omega]
    show Yd _ _ O A (patF q p r (0 + (i.toNat : Int)) (itv (patF q p r) (u, 0) 0 i.toNat)).1 q
    rw [show (0 : Int) + (i.toNat : Int) = i by omega]
    show Yd _ _ O A (cutS q (itv (patF q p r) (u, 0) 0 i.toNat).1 r (q (16 + ((6 * p) + i)))) q
    rw [← ht]
    exact hY1c
theorem w220_35 {g : AG} {M : AM} {O : Nat} {A : YA} {q : Int → Int} {b : Int} {u : Int → Int} {a0 : (Int → Int) × Int} {p bf : Int} {w5 w6 w7 w8 w9 : AV} {Q : AO → AG → AM → Prop} (hY : Yd g M O A a0.1 q) (hA0 : Aft b q u a0) (hO : O + 348 ≤ 100 + gN g) (hp : 0 ≤ p ∧ p < q 1) (hw5 : am_cat w5 = 1) (hw6 : am_cat w6 = 1) (hw7 : am_cat w7 = 1) (hw8 : am_cat w8 = 1) (hw9 : am_cat w9 = 1) (K : ∀ (g1 : AG) (M1 : AM) (w4 w5 w6 w7 w8 w9 : AV), am_cat w4 = 1 → am_cat w5 = 1 → am_cat w6 = 1 → am_cat w7 = 1 → am_cat w8 = 1 → am_cat w9 = 1 → Yd g1 M1 O A (pfX q p a0).1 q → Fr (FY O) 1009 32601 g M g1 M1 → Ok 2 220 115 [aR 101, aI 3, aI bf, aI p, w4, w5, w6, w7, w8, w9] [] g1 M1 Q) : Ok 2 220 35 [aR 101, aI 3, aI bf, aI p, aR (nulR A.R (r38 q a0.1 p)), w5, w6, w7, w8, w9] [] g M Q := by
  refine ok_lp (σ := Int × ((Int → Int) × Int)) (fun z ls g9 M9 => 0 ≤ z.1 ∧ itx (pfF q p) a0 0 z.1.toNat = .inl z.2 ∧ Aft b q u z.2 ∧ Yd g9 M9 O A z.2.1 q ∧ Fr (FY O) (7 * z.1.toNat) (225 * z.1.toNat) g M g9 M9 ∧ ∃ w5 w6 w7 w8 w9 : AV, am_cat w5 = 1 ∧ am_cat w6 = 1 ∧ am_cat w7 = 1 ∧ am_cat w8 = 1 ∧ am_cat w9 = 1 ∧ ls = [aR 101, aI 3, aI bf, aI p, aR (nulR A.R (r38 q z.2.1 p)), w5, w6, w7, w8, w9]) (fun z => (r20 z.2.1).toNat) ?_ (0, a0) _ g M ⟨Int.le_refl 0, rfl, hA0, hY, Fr.rfl, w5, w6, w7, w8, w9, hw5, hw6, hw7, hw8, hw9, rfl⟩
  rintro ⟨i, t, c⟩ ls g9 M9 ⟨hi0, hitx, hA, hYt, hfr, w5, w6, w7, w8, w9, hw5, hw6, hw7, hw8, hw9, rfl⟩ ih
  dsimp only at *
  have hVt : Val b q t := hA.1
  have hV0 := hA0.1
  have hn9 := hfr.n
  have hi4 : i ≤ 144 := by
    have h := ((pf_inv hp hA0 i.toNat).1 _ hitx).2
    have h1 : 0 ≤ r20 t ∧ r20 t ≤ 144 := r20_rg hVt
    have h2 := r20_rg hV0
    have h3 : r20 t ≤ r20 a0.1 - (i.toNat : Int) := h
    omega
  have hQ := V_q hVt
  have y3 := V_3 hVt
  have y4 := V_4 hVt
  have y5 := V_5 hVt
  have yq0 := Q_0 hQ
  have yq1 := Q_1 hQ
  have z10 := Q_10 hQ hp.1 hp.2
  have e0 : Fr (FY O) 0 0 g9 M9 g9 M9 := Fr.rfl
  by_cases h38 : r38 q t p = -1
  · rw [h38, nulR_0]
    refine ok_aload (pc' := 37) i220_35 rfl rfl <| ok_ifnull1 (pc1 := 115) i220_37 rfl <| ?_
    exact K _ _ _ w5 w6 w7 w8 w9 rfl hw5 hw6 hw7 hw8 hw9 (by rw [pf_end (b := b) (s := u) ⟨hi0, hi4⟩ hitx (Or.inr h38)]; exact hYt) (Fr.w hfr (by omega) (by omega))
  · rw [nulR_1 h38]
    have h38b := p_38 hVt h38
    have hr38 : 0 ≤ r38 q t p ∧ r38 q t p < t 3 := ⟨h38b.1, h38b.2.1⟩
    have h37 := h38b.2.2
    refine ok_aload (pc' := 37) i220_35 rfl rfl <| ok_ifnull0 (pc1 := 40) i220_37 (Or.inl (Nat.le_trans (by decide) (hYt.gr.rr (r38 q t p) (by omega) (by omega)).2.1.1)) (by decide) rfl <| ok_aloadn (pc' := 41) i220_40 rfl rfl <| ok_aloadn (pc' := 42) i220_41 rfl rfl <| ok_getfr (r := 105) (pc' := 45) i220_42 o220 gr17_26 (hYt.gr.ky) (hYt.gr.r2) rfl <| ok_iloadn (pc' := 46) i220_45 rfl rfl <| ok_aaload (r := (A.P p)) (pc' := 47) i220_46 (hYt.gr.k5) (by decide) (hYt.gr.l5) (by omega) ((hYt.gr.pp p (by omega) (by omega)).1) rfl <| ?_
    refine ok_cc i220_47 rfl (cl_v o220 m17_194 na201 rfl rfl (bt rfl) (bt rfl) rfl (by rw [hYt.gr.ky, o201])) ln201 (pd201 (aR 101) (aR (A.P p))) <| (Ok.deep (t201 (p := p) hYt hVt ⟨by omega, by omega⟩) (by omega)).mono (fun o9 g2c M2c p2c => ?_)
    obtain ⟨rfl, ef2⟩ := p2c
    have hY2c := Yd.f0 hYt ef2
    have f2c := Fr.trans e0 (Fr.of0 ef2)
    have z1 : 0 ≤ (r39 q t p) ∧ (r39 q t p) ≤ 1 := by have := w39_1 (s := t) (q := q) (p := p); omega
    refine kt_v (pc' := 50) rfl <| ?_
    refine ok_zeq (pc1 := 115) (pc2 := 53) i220_50 (by omega) rfl rfl (fun h2 => ?_) (fun h2 => ?_)
    · exact K _ _ _ w5 w6 w7 w8 w9 rfl hw5 hw6 hw7 hw8 hw9 (by rw [pf_end (b := b) (s := u) ⟨hi0, hi4⟩ hitx (Or.inl (show r39 q t p = 0 by omega))]; exact hY2c) (Fr.w (Fr.trans hfr f2c) (by omega) (by omega))
    · refine ok_aloadn (pc' := 54) i220_53 rfl rfl <| ok_getfr (r := 105) (pc' := 57) i220_54 o220 gr17_26 (hY2c.gr.ky) (hY2c.gr.r2) rfl <| ok_iloadn (pc' := 58) i220_57 rfl rfl <| ok_aaload (r := (A.P p)) (pc' := 59) i220_58 (hY2c.gr.k5) (by decide) (hY2c.gr.l5) (by omega) ((hY2c.gr.pp p (by omega) (by omega)).1) rfl <| ok_astore (pc' := 61) (ls' := [aR 101, aI 3, aI bf, aI p, aR (A.R (r38 q t p)), aR (A.P p), w6, w7, w8, w9]) i220_59 (bt rfl) rfl rfl <| ok_aload (pc' := 63) i220_61 rfl rfl <| ok_arrlen (v := (q (10 + p))) (pc' := 64) i220_63 ((hY2c.gr.pp p (by omega) (by omega)).2.2.1) (by decide) ((hY2c.gr.pp p (by omega) (by omega)).2.2.2) rfl <| ok_istore (pc' := 66) (ls' := [aR 101, aI 3, aI bf, aI p, aR (A.R (r38 q t p)), aR (A.P p), aI (q (10 + p)), w7, w8, w9]) i220_64 (bt rfl) rfl rfl <| ?_
      refine ok_iconst (pc' := 67) i220_66 rfl <| ok_istore (pc' := 69) (ls' := [aR 101, aI 3, aI bf, aI p, aR (A.R (r38 q t p)), aR (A.P p), aI (q (10 + p)), aI 0, w8, w9]) i220_67 (bt rfl) rfl rfl <| ?_
      have hgo := pf_go hA hp (show r39 q t p ≠ 0 by omega) h38
      have hst := pf_step hi0 hitx (show r39 q t p ≠ 0 by omega) h38
      refine w220_69 (i0 := 0) hY2c hVt (by have := (f2c).n; omega) hp hr38 h37 (by omega) hw8 hw9 (fun g5 M5 w8 w9 hw8 hw9 hY5 f5 => ?_)
      have fz := Fr.trans f2c f5
      obtain ⟨v, hv⟩ : ∃ v : Int → Int, v = patS q t p (r38 q t p) := ⟨_, rfl⟩
      dsimp only at hgo hst
      rw [← hv] at hY5 hgo hst
      have hVv : Val b q v := hgo.1.1
      have hQ := V_q hVv
      have y3 := V_3 hVv
      have y4 := V_4 hVv
      have y5 := V_5 hVv
      have yq0 := Q_0 hQ
      have yq1 := Q_1 hQ
      refine ok_aloadn (pc' := 100) i220_99 rfl rfl <| ok_aloadn (pc' := 101) i220_100 rfl rfl <| ok_getfr (r := 105) (pc' := 104) i220_101 o220 gr17_26 (hY5.gr.ky) (hY5.gr.r2) rfl <| ok_iloadn (pc' := 105) i220_104 rfl rfl <| ok_aaload (r := (A.P p)) (pc' := 106) i220_105 (hY5.gr.k5) (by decide) (hY5.gr.l5) (by omega) ((hY5.gr.pp p (by omega) (by omega)).1) rfl <| ok_iconst (pc' := 107) i220_106 rfl <| ?_
      refine ok_cc i220_107 rfl (cl_v o220 m17_190 na199 rfl rfl (bt rfl) (bt rfl) rfl (by rw [hY5.gr.ky, o199])) ln199 (pd199 (aR 101) (aR (A.P p)) (aI 1)) <| (Ok.deep (t199 (x2 := 1) hY5 hVv (hY5.ip (p := p) (by omega) (by omega)) (ptV hQ ⟨by omega, by omega⟩) ⟨by omega, by omega⟩) (by omega)).mono (fun o9 g3c M3c p3c => ?_)
      obtain ⟨eg3, em3, a3r, hF3, rfl⟩ := p3c
      rw [eg3, em3, Fst.uniq (by omega) hF3 (rf_38 hVv ⟨by omega, by omega⟩)]
      refine kt_v (pc' := 110) rfl <| ok_astore (pc' := 112) (ls' := [aR 101, aI 3, aI bf, aI p, aR (nulR A.R (r38 q v p)), aR (A.P p), aI (q (10 + p)), aI (q (10 + p)), w8, w9]) i220_110 (bt rfl) rfl rfl <| ok_goto (pc' := 35) i220_112 rfl <| ?_
      refine ih (i + 1, (v, c + q (10 + p))) _ _ _ (by have h8 := r20_rg hVv; have h9 := r20_rg hVt; have h7 := hgo.2; show (r20 v).toNat < (r20 t).toNat; omega) ⟨by show 0 ≤ i + 1; omega, hst, hgo.1, hY5, ?_, _, _, _, _, _, rfl, rfl, rfl, hw8, hw9, rfl⟩
      rw [show (i + 1, (v, c + q (10 + p))).1.toNat = i.toNat + 1 by show (i + 1).toNat = _; omega]
      exact Fr.w (Fr.trans hfr fz) (by omega) (by omega)
