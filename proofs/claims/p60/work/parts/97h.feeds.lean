/-! FEEDS (by program, wip/p60/gen) -/
theorem gr14_9 : am_gfr 14 9 19 0 = true := by decide +kernel
theorem gi14_15 : am_gfi 14 15 19 1 = true := by decide +kernel
theorem o210 : am_oc 210 = 13 := by decide +kernel
theorem m13_7 : am_mlk 13 7 0 1 = true := by decide +kernel
theorem m13_13 : am_mlk 13 13 0 2 = true := by decide +kernel
theorem rt210 : am_rt 210 = some .boolean := by decide +kernel
theorem m13_17 : am_mlk 13 17 0 88 = true := by decide +kernel
theorem na88 : am_na 88 = 5 := by decide +kernel
theorem nl88 : am_nL 88 = 6 := by decide +kernel
theorem pd88 : ∀ a0 a1 a2 a3 a4 a5 : AV, am_pad 88 [a0, a1, a2, a3, a4, a5] = [a0, a1, a2, a3, a4, a5] := by intros; unfold am_pad; rw [nl88]; rfl
theorem ln88 : 6 ≤ am_nL 88 := by rw [nl88]; decide
theorem t1s {g : AG} {M : AM} {S W : Nat} {t : Tx} (hS : S19 g M S W t) (ht : t.1 ≤ 2000) : Ok 1 1 0 [aR S] [] g M (Rt (some (aI t.1)) g (fun M9 => M9 = M)) := by
  have hz : 0 ≤ t.1 := hS.2.2.2.2.2.1
  refine ok_aloadn (pc' := 1) i1_0 rfl rfl <| ok_getfr (r := W) (pc' := 4) i1_1 o1 gr14_9 (hS.1) (hS.2.1) rfl <| ok_arrlen (v := t.1) (pc' := 5) i1_4 (hS.2.2.1) (by decide) (hS.2.2.2.1) rfl <| ok_aloadn (pc' := 6) i1_5 rfl rfl <| ok_cc i1_6 rfl (cl_vs o1 m14_335 na4 rfl rfl (bt rfl) (bt rfl) rfl ⟨o4, hS.1⟩) ln4 (pd4 (aR S)) <| ok_gst1 (pc' := 3) i4_0 o4 rfl <| ok_kz0 (pc1 := 13) (pc2 := 6) i4_3 (by decide) rfl rfl <| ok_aloadn (pc' := 7) i4_6 rfl rfl <| ?_
  refine ok_getfi (v := 0) (pc' := 10) i4_7 o4 gi14_15 (hS.1) (hS.2.2.2.2.1) rfl <| ok_goto (pc' := 14) i4_10 rfl <| ok_iretb i4_14 rt4 (by decide) <| kt_v (pc' := 9) rfl <| ok_ishr (v := t.1) (pc' := 10) i1_9 (shr0 (by omega)) rfl <| ok_ireti i1_10 rt1 <| ?_
  exact ⟨rfl, rfl, rfl⟩
theorem t2s {g : AG} {M : AM} {S W : Nat} {t : Tx} {x : Int} (hS : S19 g M S W t) (ht : t.1 ≤ 2000) (hx : 0 ≤ x ∧ x < t.1) : Ok 4 2 0 [aR S, aI x] [] g M (Rt (some (aI (t.2 x))) g (fun M9 => M9 = M)) := by
  have hz : 0 ≤ t.1 := hS.2.2.2.2.2.1
  have hc := (hS.2.2.2.2.2.2.1 x hx.1 hx.2).2
  refine ok_aloadn (pc' := 1) i2_0 rfl rfl <| ok_cc i2_1 rfl (cl_vs o2 m14_492 na3 rfl rfl (bt rfl) (bt rfl) rfl ⟨o3, hS.1⟩) ln3 (pd3 (aR S)) <| ok_gst1 (pc' := 3) i3_0 o3 rfl <| ok_kz0 (pc1 := 17) (pc2 := 6) i3_3 (by decide) rfl rfl <| ok_aloadn (pc' := 7) i3_6 rfl rfl <| ok_getfi (v := 0) (pc' := 10) i3_7 o3 gi14_15 (hS.1) (hS.2.2.2.2.1) rfl <| ok_kz0 (pc1 := 17) (pc2 := 13) i3_10 (by decide) rfl rfl <| ok_iconst (pc' := 14) i3_13 rfl <| ?_
  refine ok_goto (pc' := 18) i3_14 rfl <| ok_iretz i3_18 rt3 (by decide) <| kt_v (pc' := 4) rfl <| ok_kz0 (pc1 := 16) (pc2 := 7) i2_4 (by decide) rfl rfl <| ok_aloadn (pc' := 8) i2_7 rfl rfl <| ok_getfr (r := W) (pc' := 11) i2_8 o2 gr14_9 (hS.1) (hS.2.1) rfl <| ok_iloadn (pc' := 12) i2_11 rfl rfl <| ok_cc i2_12 rfl (cl_s o2 m14_495 na6 rfl rfl (bt rfl) (bt rfl) rfl) ln6 (pd6 (aR W) (aI x)) <| ?_
  refine ok_iloadn (pc' := 1) i6_0 rfl rfl <| ok_aloadn (pc' := 2) i6_1 rfl rfl <| ok_arrlen (v := t.1) (pc' := 3) i6_2 (hS.2.2.1) (by decide) (hS.2.2.2.1) rfl <| ok_cc i6_3 rfl (cl_s o6 m20_9 na5 rfl rfl (bt rfl) (bt rfl) rfl) ln5 (pd5 (aI x) (aI t.1)) <| ok_iloadn (pc' := 1) i5_0 rfl rfl <| ok_iloadn (pc' := 2) i5_1 rfl rfl <| ok_gst2 (pc' := 5) i5_2 o5 rfl <| ok_cc i5_5 rfl (cl_s o5 m14_1059 na7 rfl rfl (bt rfl) (bt rfl) rfl) ln7 (pd7 (aI x) (aI t.1) (aR 2)) <| ?_
  refine ok_iloadn (pc' := 1) i7_0 rfl rfl <| ?_
  refine ok_zlt (pc1 := 9) (pc2 := 4) i7_1 (by omega) rfl rfl (fun h9 => by exfalso; omega) (fun h1 => ?_)
  refine ok_iloadn (pc' := 5) i7_4 rfl rfl <| ok_iloadn (pc' := 6) i7_5 rfl rfl <| ?_
  refine ok_clt (pc1 := 16) (pc2 := 9) i7_6 (by omega) rfl rfl (fun h2 => ?_) (fun h9 => by exfalso; omega)
  refine ok_iloadn (pc' := 17) i7_16 rfl rfl <| ok_ireti i7_17 rt7 <| kt_v (pc' := 8) rfl <| ok_pop (pc' := 9) i5_8 rfl rfl <| ok_vret i5_9 rt5 <| kt_0 (pc' := 6) rfl <| ok_aloadn (pc' := 7) i6_6 rfl rfl <| ok_iloadn (pc' := 8) i6_7 rfl rfl <| ?_
  have hl9 := hS.2.2.2.1
  refine ok_baload (v := (t.2 x)) (pc' := 9) i6_8 hS.2.2.1 (by decide) rfl (by omega) (hS.2.2.2.2.2.2.1 x (by omega) (by omega)).1 rfl <| ok_sipush (v := 255) (pc' := 12) i6_9 rfl rfl <| ok_iand (v := (t.2 x)) (pc' := 13) i6_12 (and255 (by omega)) rfl <| ok_i2c (v := (t.2 x)) (pc' := 14) i6_13 (by omega) rfl <| ok_iretc i6_14 rt6 (by omega) <| kt_v (pc' := 15) rfl <| ok_iretc i2_15 rt2 (by omega) <| ?_
  exact ⟨rfl, rfl, rfl⟩
def FE (O : Nat) : Nat → Prop := fun c => c = O ∨ c = O + 1
/-- the letter at a place; blanks behind -/
def hx (t : Tx) (x : Int) : Int := if 0 ≤ x ∧ x < t.1 then t.2 x else 32
def FD (g0 : AG) (M0 : AM) (g : AG) (M : AM) (O S W : Nat) (t : Tx) (i : Int) (nc ns : Nat) : Prop := CG g O ∧ S19 g M S W t ∧ M O 1 = i ∧ (∀ x : Int, 0 ≤ x → x < i → M (O + 1) x = hx t x) ∧ (∀ x : Int, i ≤ x → M (O + 1) x = M0 (O + 1) x) ∧ (∀ y : Int, y ≠ 1 → M O y = M0 O y) ∧ Fr (FE O) nc ns g0 M0 g M ∧ (O + 348 ≤ 100 + gN g0 ∧ S < 100 + gN g0 ∧ W < 100 + gN g0 ∧ O + 348 ≤ S ∧ O + 348 ≤ W)
section FD
variable {g0 g g1 : AG} {M0 M M1 : AM} {O S W nc ns nc' ns' : Nat} {t : Tx} {i : Int}
theorem FD.s (h : FD g0 M0 g M O S W t i nc ns) : S19 g M S W t := h.2.1
theorem S19.fr {F : Nat → Prop} (h : S19 g M S W t) (e : Fr F nc ns g M g1 M1) (hS : ¬ F S) (hW : ¬ F W) : S19 g1 M1 S W t := by
  obtain ⟨h1, h2, h3, h4, h5, h6, h7, h8⟩ := h
  have hn := e.n
  exact ⟨(e.k h8.2.1).trans h1, by rw [e.r h8.2.1 hS]; exact h2, (e.k h8.2.2.2).trans h3, by rw [e.l h8.2.2.2]; exact h4, by rw [e.m h8.2.1 hS]; exact h5, h6, fun x x0 x1 => by rw [e.m h8.2.2.2 hW]; exact h7 x x0 x1, by omega⟩
theorem FD.f0 (h : FD g0 M0 g M O S W t i nc ns) (e : Fr FN nc' ns' g M g1 M1) : FD g0 M0 g1 M1 O S W t i (nc + nc') (ns + ns') := by
  obtain ⟨h1, h2, h3, h4, h5, h6, h7, h8⟩ := h
  have hn := h7.n
  exact ⟨h1.fx (fun c c0 c1 => e.sg (by omega) (fun e => e)), h2.fr e (fun e => e) (fun e => e), by rw [e.m0 (by omega)]; exact h3, fun x x0 x1 => by rw [e.m0 (by omega)]; exact h4 x x0 x1, fun x x0 => by rw [e.m0 (by omega)]; exact h5 x x0, fun y hy => by rw [e.m0 (by omega)]; exact h6 y hy, Fr.trans h7 e.of0, h8⟩
theorem FD.up {a : Nat} {x v : Int} (h : FD g0 M0 g M O S W t i nc ns) (ha : 100 + gN g0 ≤ a) : FD g0 M0 g (up2 M a x v) O S W t i nc ns := by
  obtain ⟨h1, h2, h3, h4, h5, h6, h7, h8⟩ := h
  refine ⟨h1, ⟨h2.1, h2.2.1, h2.2.2.1, h2.2.2.2.1, by rw [up2_na (by omega)]; exact h2.2.2.2.2.1, h2.2.2.2.2.2.1, fun x x0 x1 => by rw [up2_na (by omega)]; exact h2.2.2.2.2.2.2.1 x x0 x1, h2.2.2.2.2.2.2.2⟩, by rw [up2_na (by omega)]; exact h3, fun x x0 x1 => by rw [up2_na (by omega)]; exact h4 x x0 x1, fun x x0 => by rw [up2_na (by omega)]; exact h5 x x0, fun y hy => by rw [up2_na (by omega)]; exact h6 y hy, h7.up (Or.inr ha), h8⟩
theorem FD.w (h : FD g0 M0 g M O S W t i nc ns) (h1 : nc ≤ nc') (h2 : ns ≤ ns') : FD g0 M0 g M O S W t i nc' ns' := ⟨h.1, h.2.1, h.2.2.1, h.2.2.2.1, h.2.2.2.2.1, h.2.2.2.2.2.1, Fr.w h.2.2.2.2.2.2.1 h1 h2, h.2.2.2.2.2.2.2⟩
theorem hx_rg (h : S19 g M S W t) (x : Int) : 0 ≤ hx t x ∧ hx t x ≤ 127 := by
  unfold hx
  by_cases hc : 0 ≤ x ∧ x < t.1
  · rw [if_pos hc]; exact (h.2.2.2.2.2.2.1 x hc.1 hc.2).2
  · rw [if_neg hc]; omega
theorem FD.app (h : FD g0 M0 g M O S W t i nc ns) (hi : 0 ≤ i) (e1 : M1 O 1 = i + 20) (e2 : ∀ x : Int, M1 (O + 1) x = if i ≤ x ∧ x < i + 20 then hx t x else M (O + 1) x) (e3 : ∀ y : Int, y ≠ 1 → M1 O y = M O y) (e4 : ∀ c : Nat, c ≠ O → c ≠ O + 1 → M1 c = M c) : FD g0 M0 g M1 O S W t (i + 20) nc ns := by
  obtain ⟨h1, h2, h3, h4, h5, h6, h7, h8⟩ := h
  refine ⟨h1, ⟨h2.1, h2.2.1, h2.2.2.1, h2.2.2.2.1, by rw [e4 _ (by omega) (by omega)]; exact h2.2.2.2.2.1, h2.2.2.2.2.2.1, fun x x0 x1 => by rw [e4 _ (by omega) (by omega)]; exact h2.2.2.2.2.2.2.1 x x0 x1, h2.2.2.2.2.2.2.2⟩, e1, fun x x0 x1 => ?_, fun x x0 => ?_, fun y hy => by rw [e3 y hy]; exact h6 y hy, ?_, h8⟩
  · rw [e2]
    by_cases hc : i ≤ x
    · rw [if_pos ⟨hc, x1⟩]
    · rw [if_neg (by omega)]; exact h4 x x0 (by omega)
  · rw [e2, if_neg (by omega)]; exact h5 x (by omega)
  · obtain ⟨a1, a2, a3, a4⟩ := h7
    exact ⟨a1, a2, a3, fun c hc => ⟨(a4 c hc).1, fun hn => ⟨((a4 c hc).2 hn).1, (e4 c (fun e => hn (Or.inl e)) (fun e => hn (Or.inr e))).trans ((a4 c hc).2 hn).2⟩⟩⟩
end FD
/-- a word with some letters in it -/
def wp (h : Int → Int) (j r : Int) : Int := if r ≤ 0 then 0 else if r = 1 then h j else if r = 2 then 256 * h j + h (j + 1) else if r = 3 then 256 * (256 * h j + h (j + 1)) + h (j + 2) else Xw h j
theorem wp_0 {h : Int → Int} {j r : Int} (hr : r ≤ 0) : wp h j r = 0 := if_pos hr
theorem wp_4 {h : Int → Int} {j r : Int} (hr : 4 ≤ r) : wp h j r = Xw h j := by
  unfold wp
  rw [if_neg (by omega), if_neg (by omega), if_neg (by omega), if_neg (by omega)]
theorem wp_s {h : Int → Int} {j r : Int} (hr : 0 ≤ r ∧ r ≤ 3) : 256 * wp h j r + h (j + r) = wp h j (r + 1) := by
  rcases (show r = 0 ∨ r = 1 ∨ r = 2 ∨ r = 3 by omega) with rfl | rfl | rfl | rfl
  · rw [wp_0 (by omega), Int.add_zero]; show 256 * 0 + h j = h j; omega
  · rfl
  · rfl
  · rfl
theorem wp_rg {h : Int → Int} (hh : ∀ x : Int, 0 ≤ h x ∧ h x ≤ 127) {j r : Int} (hr : 0 ≤ r ∧ r ≤ 3) : 0 ≤ wp h j r ∧ wp h j r < 8388608 := by
  have a0 := hh j
  have a1 := hh (j + 1)
  have a2 := hh (j + 2)
  rcases (show r = 0 ∨ r = 1 ∨ r = 2 ∨ r = 3 by omega) with rfl | rfl | rfl | rfl
  · rw [wp_0 (by omega)]; omega
  · show 0 ≤ h j ∧ h j < 8388608; omega
  · show 0 ≤ 256 * h j + h (j + 1) ∧ 256 * h j + h (j + 1) < 8388608; omega
  · show 0 ≤ 256 * (256 * h j + h (j + 1)) + h (j + 2) ∧ 256 * (256 * h j + h (j + 1)) + h (j + 2) < 8388608; omega
theorem w210_17 {g0 g : AG} {M0 M : AM} {O S W nc ns xw : Nat} {t : Tx} {i : Int} {d : Nat} {Q : AO → AG → AM → Prop} (hF : FD g0 M0 g M O S W t i nc ns) (hxw : 100 + gN g0 ≤ xw) (hA : IA g M xw 5 (fun _ => 0)) (hi : 0 ≤ i ∧ i ≤ 1000) (ht : t.1 ≤ 660) (K : ∀ (g1 : AG) (M1 : AM) (f : Int → Int), FD g0 M0 g1 M1 O S W t i nc ns → IA g1 M1 xw 5 f → (∀ z : Int, 0 ≤ z ∧ z < 5 → f z = wp (hx t) (i + 4 * z) (20 - 4 * z)) → Ok (d + 10) 210 70 [aR O, aR S, aI i, aR xw, aI 20] [] g1 M1 Q) : Ok (d + 10) 210 17 [aR O, aR S, aI i, aR xw, aI 0] [] g M Q := by
  refine ok_lp (σ := Int) (fun k ls g9 M9 => (0 ≤ k ∧ k ≤ 20) ∧ FD g0 M0 g9 M9 O S W t i nc ns ∧ ∃ f : Int → Int, IA g9 M9 xw 5 f ∧ (∀ z : Int, 0 ≤ z ∧ z < 5 → f z = wp (hx t) (i + 4 * z) (k - 4 * z)) ∧ ls = [aR O, aR S, aI i, aR xw, aI k]) (fun k => (20 - k).toNat) ?_ 0 _ g M ⟨by omega, hF, fun _ => 0, hA, fun z hz => (wp_0 (by omega)).symm, rfl⟩
  rintro k ls g M ⟨hk, hF, f, hA, hf, rfl⟩ ih
  have hz := hF.s.2.2.2.2.2.1
  by_cases hk9 : k = 20
  · subst hk9
    refine ok_iload (pc' := 19) i210_17 rfl rfl <| ok_bipush (v := 20) (pc' := 21) i210_19 rfl rfl <| ok_kc1 (pc1 := 70) (pc2 := 24) i210_21 (by decide) rfl rfl <| ?_
    exact K _ _ f hF hA hf
  obtain ⟨m, hm⟩ : ∃ m : Int, 4 * m ≤ k ∧ k ≤ 4 * m + 3 := ⟨k / 4, by omega⟩
  have hfm := wp_rg (hx_rg hF.s) (j := i + 4 * m) (r := k - 4 * m) (by omega)
  rw [← hf m ⟨by omega, by omega⟩] at hfm
  have hc := hx_rg hF.s (i + k)
  refine ok_iload (pc' := 19) i210_17 rfl rfl <| ok_bipush (v := 20) (pc' := 21) i210_19 rfl rfl <| ?_
  refine ok_cge (pc1 := 70) (pc2 := 24) i210_21 (by omega) rfl rfl (fun h9 => by exfalso; omega) (fun h1 => ?_)
  refine ok_aloadn (pc' := 25) i210_24 rfl rfl <| ok_iload (pc' := 27) i210_25 rfl rfl <| ok_iconst (pc' := 28) i210_27 rfl <| ok_idivp (v := (Int.tdiv k 4)) (pc' := 29) i210_28 (by omega) rfl rfl <| ?_
  rw [show Int.tdiv k 4 = m by rw [Int.tdiv_eq_ediv_of_nonneg (by omega)]; omega]
  refine ok_aloadn (pc' := 30) i210_29 rfl rfl <| ok_iload (pc' := 32) i210_30 rfl rfl <| ok_iconst (pc' := 33) i210_32 rfl <| ok_idivp (v := (Int.tdiv k 4)) (pc' := 34) i210_33 (by omega) rfl rfl <| ?_
  rw [show Int.tdiv k 4 = m by rw [Int.tdiv_eq_ediv_of_nonneg (by omega)]; omega]
  have b2 := hA.2.1
  refine ok_iaload (v := (f m)) (pc' := 35) i210_34 (hA.1) (by decide) (rfl) (by omega) ((hA.2.2 m (by omega) (by omega))) rfl <| ok_bipush (v := 8) (pc' := 37) i210_35 rfl rfl <| ok_ishl (v := (256 * (f m))) (pc' := 38) i210_37 (shl8 (by omega)) rfl <| ok_iloadn (pc' := 39) i210_38 rfl rfl <| ok_iload (pc' := 41) i210_39 rfl rfl <| ok_iadd (v := (i + k)) (pc' := 42) i210_41 rfl rfl <| ok_aloadn (pc' := 43) i210_42 rfl rfl <| ?_
  refine ok_cc i210_43 rfl (cl_vs o210 m13_7 na1 rfl rfl (bt rfl) (bt rfl) rfl ⟨o1, hF.2.1.1⟩) ln1 (pd1 (aR S)) <| (Ok.deep (t1s hF.s (by omega)) (by omega)).mono (fun o9 g13l M13l p13l => ?_)
  obtain ⟨rfl, eg13l, em13l⟩ := p13l
  rw [eg13l, em13l]
  refine kt_v (pc' := 46) rfl <| ?_
  refine ok_cge (pc1 := 60) (pc2 := 49) i210_46 (by omega) rfl rfl (fun h3 => ?_) (fun h3 => ?_)
  · refine ok_bipush (v := 32) (pc' := 62) i210_60 rfl rfl <| ok_ior (v := ((256 * (f m)) + 32)) (pc' := 63) i210_62 (or8 (by omega) (by omega)) rfl <| ?_
    have b4 := hA.2.1
    refine ok_iastore (pc' := 64) i210_63 (hA.1) (rfl) (by omega) rfl <| ok_iinc (pc' := 67) (v := (k + 1)) (ls' := [aR O, aR S, aI i, aR xw, aI (k + 1)]) i210_64 rfl rfl rfl rfl <| ok_goto (pc' := 17) i210_67 rfl <| ?_
    have hv9 : ((256 * (f m)) + 32) = 256 * wp (hx t) (i + 4 * m) (k - 4 * m) + hx t (i + 4 * m + (k - 4 * m)) := by rw [hf m ⟨by omega, by omega⟩, show i + 4 * m + (k - 4 * m) = i + k by omega]; show _ = _ + (if 0 ≤ i + k ∧ i + k < t.1 then t.2 (i + k) else 32); rw [if_neg (by omega)]
    rw [hv9, wp_s (by omega)]
    exact ih (k + 1) _ _ _ (by omega) ⟨by omega, hF.up hxw, upI f m (wp (hx t) (i + 4 * m) (k - 4 * m + 1)), IA.up hA, fun z hz => by
      by_cases hzm : z = m
      · subst hzm; rw [upI_eq]; congr 1; omega
      · rw [upI_ne hzm, hf z hz]
        by_cases hlt : z < m
        · rw [wp_4 (by omega), wp_4 (by omega)]
        · rw [wp_0 (by omega), wp_0 (by omega)], rfl⟩
  · refine ok_aloadn (pc' := 50) i210_49 rfl rfl <| ok_iloadn (pc' := 51) i210_50 rfl rfl <| ok_iload (pc' := 53) i210_51 rfl rfl <| ok_iadd (v := (i + k)) (pc' := 54) i210_53 rfl rfl <| ?_
    refine ok_cc i210_54 rfl (cl_vs o210 m13_13 na2 rfl rfl (bt rfl) (bt rfl) rfl ⟨o2, hF.2.1.1⟩) ln2 (pd2 (aR S) (aI (i + k))) <| (Ok.deep (t2s (x := (i + k)) hF.s (by omega) ⟨by omega, by omega⟩) (by omega)).mono (fun o9 g14l M14l p14l => ?_)
    obtain ⟨rfl, eg14l, em14l⟩ := p14l
    rw [eg14l, em14l]
    rw [show t.2 (i + k) = hx t (i + k) from (if_pos ⟨by omega, by omega⟩).symm]
    refine kt_v (pc' := 57) rfl <| ok_goto (pc' := 62) i210_57 rfl <| ok_ior (v := ((256 * (f m)) + (hx t (i + k)))) (pc' := 63) i210_62 (or8 (by omega) (by omega)) rfl <| ?_
    have b5 := hA.2.1
    refine ok_iastore (pc' := 64) i210_63 (hA.1) (rfl) (by omega) rfl <| ok_iinc (pc' := 67) (v := (k + 1)) (ls' := [aR O, aR S, aI i, aR xw, aI (k + 1)]) i210_64 rfl rfl rfl rfl <| ok_goto (pc' := 17) i210_67 rfl <| ?_
    have hv9 : ((256 * (f m)) + (hx t (i + k))) = 256 * wp (hx t) (i + 4 * m) (k - 4 * m) + hx t (i + 4 * m + (k - 4 * m)) := by rw [hf m ⟨by omega, by omega⟩, show i + 4 * m + (k - 4 * m) = i + k by omega]
    rw [hv9, wp_s (by omega)]
    exact ih (k + 1) _ _ _ (by omega) ⟨by omega, hF.up hxw, upI f m (wp (hx t) (i + 4 * m) (k - 4 * m + 1)), IA.up hA, fun z hz => by
      by_cases hzm : z = m
      · subst hzm; rw [upI_eq]; congr 1; omega
      · rw [upI_ne hzm, hf z hz]
        by_cases hlt : z < m
        · rw [wp_4 (by omega), wp_4 (by omega)]
        · rw [wp_0 (by omega), wp_0 (by omega)], rfl⟩
theorem w210_2 {g : AG} {M : AM} {O S W : Nat} {t : Tx} {d : Nat} {Q : AO → AG → AM → Prop} (hF : FD g M g M O S W t 0 0 0) (ht : t.1 ≤ 660) (hret : ∀ (g1 : AG) (M1 : AM) (i : Int), FD g M g1 M1 O S W t i 34 170 → t.1 ≤ i → i ≤ 680 → Q (.inl (some (aI 1))) g1 M1) : Ok (d + 10) 210 2 [aR O, aR S, aI 0, aU, aU] [] g M Q := by
  refine ok_lp (σ := Int) (fun i ls g9 M9 => (0 ≤ i ∧ i ≤ t.1 + 19) ∧ ∃ n : Nat, i = 20 * (n : Int) ∧ FD g M g9 M9 O S W t i n (5 * n) ∧ ∃ w3 w4 : AV, am_cat w3 = 1 ∧ am_cat w4 = 1 ∧ ls = [aR O, aR S, aI i, w3, w4]) (fun i => (700 - i).toNat) ?_ 0 _ g M ⟨by have := hF.s.2.2.2.2.2.1; omega, 0, rfl, hF, aU, aU, rfl, rfl, rfl⟩
  rintro i ls g M ⟨hi, n, hin, hF, w3, w4, hw3, hw4, rfl⟩ ih
  have hz := hF.s.2.2.2.2.2.1
  refine ok_iloadn (pc' := 3) i210_2 rfl rfl <| ok_aloadn (pc' := 4) i210_3 rfl rfl <| ?_
  refine ok_cc i210_4 rfl (cl_vs o210 m13_7 na1 rfl rfl (bt rfl) (bt rfl) rfl ⟨o1, hF.2.1.1⟩) ln1 (pd1 (aR S)) <| (Ok.deep (t1s hF.s (by omega)) (by omega)).mono (fun o9 g15l M15l p15l => ?_)
  obtain ⟨rfl, eg15l, em15l⟩ := p15l
  rw [eg15l, em15l]
  refine kt_v (pc' := 7) rfl <| ?_
  refine ok_cge (pc1 := 100) (pc2 := 10) i210_7 (by omega) rfl rfl (fun h1 => ?_) (fun h1 => ?_)
  · refine ok_iconst (pc' := 101) i210_100 rfl <| ok_iretz i210_101 rt210 (by decide) <| ?_
    exact hret _ _ _ (hF.w (by omega) (by omega)) (by omega) (by omega)
  · refine ok_iconst (pc' := 11) i210_10 rfl <| ?_
    refine ok_nia (pc' := 13) i210_11 (by decide) rfl (fun xw g1 M1 hxw hn hA e => ?_)
    have hF0 := hF
    have hF := hF0.f0 e
    refine ok_astoren (pc' := 14) (ls' := [aR O, aR S, aI i, aR xw, w4]) i210_13 (bt rfl) rfl rfl <| ok_iconst (pc' := 15) i210_14 rfl <| ok_istore (pc' := 17) (ls' := [aR O, aR S, aI i, aR xw, aI 0]) i210_15 (bt rfl) rfl rfl <| ?_
    have hnn := hF0.2.2.2.2.2.2.1.n
    refine w210_17 (d := d) hF (by omega) hA (by omega) (by omega) (fun g2 M2 f hF hA hf => ?_)
    have he0 : f 0 = Xw (hx t) i := by rw [hf 0 (by decide), wp_4 (by decide)]; rw [show i + 4 * 0 = i by omega]
    have he1 : f 1 = Xw (hx t) (i + 4) := by rw [hf 1 (by decide), wp_4 (by decide)]; rw [show i + 4 * 1 = i + 4 by omega]
    have he2 : f 2 = Xw (hx t) (i + 8) := by rw [hf 2 (by decide), wp_4 (by decide)]; rw [show i + 4 * 2 = i + 8 by omega]
    have he3 : f 3 = Xw (hx t) (i + 12) := by rw [hf 3 (by decide), wp_4 (by decide)]; rw [show i + 4 * 3 = i + 12 by omega]
    have he4 : f 4 = Xw (hx t) (i + 16) := by rw [hf 4 (by decide), wp_4 (by decide)]; rw [show i + 4 * 4 = i + 16 by omega]
    refine ok_aloadn (pc' := 71) i210_70 rfl rfl <| ok_aloadn (pc' := 72) i210_71 rfl rfl <| ok_iconst (pc' := 73) i210_72 rfl <| ?_
    have b101 := hA.2.1
    refine ok_iaload (v := (Xw (hx t) i)) (pc' := 74) i210_73 (hA.1) (by decide) (rfl) (by omega) (((hA.2.2 0 (by decide) (by decide)).trans he0)) rfl <| ok_aloadn (pc' := 75) i210_74 rfl rfl <| ok_iconst (pc' := 76) i210_75 rfl <| ?_
    have b102 := hA.2.1
    refine ok_iaload (v := (Xw (hx t) (i + 4))) (pc' := 77) i210_76 (hA.1) (by decide) (rfl) (by omega) (((hA.2.2 1 (by decide) (by decide)).trans he1)) rfl <| ok_aloadn (pc' := 78) i210_77 rfl rfl <| ok_iconst (pc' := 79) i210_78 rfl <| ?_
    have b103 := hA.2.1
    refine ok_iaload (v := (Xw (hx t) (i + 8))) (pc' := 80) i210_79 (hA.1) (by decide) (rfl) (by omega) (((hA.2.2 2 (by decide) (by decide)).trans he2)) rfl <| ok_aloadn (pc' := 81) i210_80 rfl rfl <| ok_iconst (pc' := 82) i210_81 rfl <| ?_
    have b104 := hA.2.1
    refine ok_iaload (v := (Xw (hx t) (i + 12))) (pc' := 83) i210_82 (hA.1) (by decide) (rfl) (by omega) (((hA.2.2 3 (by decide) (by decide)).trans he3)) rfl <| ok_aloadn (pc' := 84) i210_83 rfl rfl <| ok_iconst (pc' := 85) i210_84 rfl <| ?_
    have b105 := hA.2.1
    refine ok_iaload (v := (Xw (hx t) (i + 16))) (pc' := 86) i210_85 (hA.1) (by decide) (rfl) (by omega) (((hA.2.2 4 (by decide) (by decide)).trans he4)) rfl <| ?_
    refine ok_cc i210_86 rfl (cl_v o210 m13_17 na88 rfl rfl (bt rfl) (bt rfl) rfl (by rw [ShYard_k0 hF.1.y, o88])) ln88 (pd88 (aR O) (aI (Xw (hx t) i)) (aI (Xw (hx t) (i + 4))) (aI (Xw (hx t) (i + 8))) (aI (Xw (hx t) (i + 12))) (aI (Xw (hx t) (i + 16)))) <| (Ok.deep (t88 (h := hx t) hF.1 hF.2.2.1 (by omega) (hx_rg hF.s)) (by omega)).mono (fun o9 g3 M3 p3 => ?_)
    obtain ⟨rfl, eg3, b1, b2, b3, b4⟩ := p3
    rw [eg3]
    have hF3 := hF.app (by omega) b1 b2 b3 b4
    refine kt_v (pc' := 89) rfl <| ?_
    refine ok_zge (pc1 := 94) (pc2 := 92) i210_89 (by omega) rfl rfl (fun h106 => ?_) (fun h9 => by exfalso; omega)
    refine ok_iinc (pc' := 97) (v := (i + 20)) (ls' := [aR O, aR S, aI (i + 20), aR xw, aI 20]) i210_94 rfl rfl rfl rfl <| ok_goto (pc' := 2) i210_97 rfl <| ?_
    exact ih (i + 20) _ _ _ (by omega) ⟨by omega, n + 1, by omega, hF3.w (by omega) (by omega), _, _, rfl, rfl, rfl⟩
