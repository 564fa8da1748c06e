/-! PATTERNS ARE DRAWN (by program, wip/p60/gen) -/
theorem sr17_92 : (am_sr 17 92).map (fun q => q.2.1) = some 36 := by decide +kernel
theorem cn17_92 : am_ct 17 92 = none := by decide +kernel
theorem pi195_94 : am_pfi 195 17 94 17 9 = true := by decide +kernel
theorem rt195 : am_rt 195 = none := by decide +kernel
theorem XR.new {g g1 : AG} {M M1 : AM} {L x : Nat} {d m : Int} {t : Tx} {A : YA} {s q : Int → Int} {V n z : Nat} {C : Int} (H : YI g M L d t A s q V C n z) (hx : 100 + gN g = x) (hn : gN g1 = gN g + 1) (hA : IA g1 M1 x m (fun _ => 0)) : XR g1 M1 A q x m (fun _ => 0) := by
  have hg := H.y.gr.n
  exact ⟨hA, by omega, fun j j0 j1 e => by have := (H.y.gr.kk j j0 j1).2.1.2.1; omega, fun j j0 j1 e => by have := (H.y.gr.pp j j0 j1).2.1.2.1; omega⟩
/-- a pattern is entered -/
theorem pat_in {g g8 : AG} {M : AM} {L x : Nat} {d m : Int} {t : Tx} {A : YA} {s q f : Int → Int} {V n z : Nat} {C : Int} {xs : List Int} (H : YI g M L d t A s q V C n z) (hX : XR g M A q x m f) (hn0 : n ≤ 500000) (hQ : ValQ q) (hq : q 1 < 6) (hm : 1 ≤ m ∧ m ≤ 3) (hlen : (xs.length : Int) = m) (hf : ∀ i : Int, 0 ≤ i → i < m → f i = xs.getD i.toNat 0) (n8 : gN g8 = gN g) (z8 : gS g8 = gS g) (r8 : gR g8 105 (q 1) = x) (k8 : gK g8 = gK g ∧ gL g8 = gL g) (o8 : ∀ j : Int, j ≠ q 1 → gR g8 105 j = gR g 105 j) (s8 : ∀ c : Nat, c ≠ 105 → SG g g8 c) : Yd g8 M OX A s q ∧ YI g8 (up2 M 101 9 (q 1 + 1)) L d t (A.1, A.2.1, (fun j => if j = q 1 then x else A.P j), A.2.2.2) s (patQ (entP q) xs) V C n z := by
  have hY := H.y
  have hnn := H_n H
  have hq1 := Q_1 hQ
  have hY7 : Yd g8 M OX A s q := Yd.ab hY (Or.inr ⟨rfl, by omega⟩) n8 k8 o8 s8
  have hX8 := hX.1.aa k8
  have hou : Ou g8 OX x := ⟨hX.2.1.1, by have := hX.2.1.2; omega, Or.inl (by have := hX.2.1.2; unfold OX; omega)⟩
  have hE := entP_g (q := q) ⟨hq1.1, hq⟩
  obtain ⟨p1, p2, p3, p4⟩ := patQ_f (p := q 1) ⟨hq1.1, hq⟩ xs (entP q) 0 hE.1 hE.2.1 (by omega) (by omega)
  have hYz := Yd.addP (q' := patQ (entP q) xs) (v := f) hY7 hq r8 hou ⟨hX8.1, hX8.2.1⟩ (by omega) hX8.2.2 p1 (by rw [p2]; omega) (fun i i0 i1 => by
    have h9 := p3 i.toNat (by omega)
    rw [show (16 + ((6 * q 1) + (0 + ((i.toNat : Nat) : Int))) : Int) = 16 + ((6 * q 1) + i) by omega] at h9
    rw [h9, hf i i0 i1]) (fun j j0 j1 j2 => by rw [p4 j (by omega) (Or.inl (by omega)), hE.2.2 j j2 (by omega)]) (fun k k0 k1 => by
    have h10 := Q_10 hQ k0 k1
    exact ⟨by rw [p4 _ (by omega) (Or.inl (by omega)), hE.2.2 _ (by omega) (by omega)], fun i i0 i1 => by rw [p4 _ (by omega) (Or.inl (by omega)), hE.2.2 _ (by omega) (by omega)]⟩) (fun k k0 k1 => (Q_10 hQ k0 k1).2)
  refine ⟨hY7, ?_⟩
  have h := YI.ch H hYz ((Fr.aa Fr.rfl (by unfold FI; omega) n8 z8 k8 s8).up (Or.inl (by unfold FI; omega))) (by rw [(s8 101 (by decide)).2.2])
  exact h.up (by omega) (by omega)
/-- the patterns -/
theorem w195_414 {g : AG} {M : AM} {L : Nat} {d0 c0 : Int} {t : Tx} {A : YA} {s q : Int → Int} {V : Nat} {C : Int} {n0 z0 : Nat} {dd : Nat} {w3 w4 w5 w6 : AV} {q00 : Int} {Q : AO → AG → AM → Prop} (hq0 : q 0 = q00) (H : YI g M L d0 t A s q V C n0 z0) (hn0 : n0 ≤ 400000) (hPI : PI t q s) (hq1 : q 1 = 0) (hc : 0 ≤ c0 ∧ c0 ≤ 2) (hd : 0 ≤ d0 ∧ d0 ≤ 39) (ht : t.1 ≤ 215) (hw3 : am_cat w3 = 1) (hw4 : am_cat w4 = 1) (hw5 : am_cat w5 = 1) (hw6 : am_cat w6 = 1) (K : ∀ (g : AG) (M : AM) (d : Int) (t : Tx) (A : YA) (q : Int → Int) (V : Nat) (C : Int), YI g M L d t A s q V C (n0 + 20) (z0 + 6) → PI t q s → (0 ≤ d ∧ d ≤ 47) → t.1 ≤ 255 → q 0 = q00 → Q (.inl none) g M) : Ok (dd + 14) 195 414 [aR 101, aR 100, aI c0, w3, w4, w5, w6] [] g M Q := by
  refine ok_lp (σ := Nat) (fun j ls g M => ∃ (c d : Int) (t : Tx) (A : YA) (q : Int → Int) (V : Nat) (C : Int) (w3 w4 w5 w6 : AV), (0 ≤ c ∧ c + j ≤ 2) ∧ q 1 = (j : Int) ∧ q 0 = q00 ∧ YI g M L d t A s q V C (n0 + 10 * j) (z0 + 3 * j) ∧ PI t q s ∧ (0 ≤ d ∧ d ≤ 39 + 4 * j) ∧ t.1 ≤ 215 + 20 * j ∧ am_cat w3 = 1 ∧ am_cat w4 = 1 ∧ am_cat w5 = 1 ∧ am_cat w6 = 1 ∧ ls = [aR 101, aR 100, aI c, w3, w4, w5, w6]) (fun j => 4 - j) ?_ 0 _ g M ⟨c0, d0, t, A, q, V, C, w3, w4, w5, w6, by omega, hq1, hq0, H, hPI, by omega, by omega, hw3, hw4, hw5, hw6, rfl⟩
  rintro j ls g M ⟨c, d, t, A, q, V, C, w3, w4, w5, w6, hcj, hq1, hq00, H, hPI, hd, ht, hw3, hw4, hw5, hw6, rfl⟩ ih
  have hY0 := YI.y H
  have hcy0 := YI.c H
  have hzy0 := (YI.sb H).z
  have hny0 := H_n H
  have hVs := hPI.val.1
  have hQ := V_q hVs
  have h5 : s 5 = 0 := hPI.val.2.1 5 (by omega) (by omega) (Or.inl (by omega))
  by_cases hc0 : c = 0
  · subst hc0
    have H := YI.up H (n' := n0 + 20) (z' := z0 + 6) (by omega) (by omega)
    refine ok_iloadn (pc' := 415) i195_414 rfl rfl <| ok_kz1 (pc1 := 507) (pc2 := 418) i195_415 (by decide) rfl rfl <| ok_vret i195_507 rt195 <| ?_
    exact K _ _ d t A q V C H hPI (by omega) (by omega) hq00
  have hc1 : 1 ≤ c ∧ c ≤ 2 := by omega
  refine ok_iloadn (pc' := 415) i195_414 rfl rfl <| ?_
  refine ok_zle (pc1 := 507) (pc2 := 418) i195_415 (by omega) rfl rfl (fun h9 => by exfalso; omega) (fun h1 => ?_)
  refine ok_aloadn (pc' := 419) i195_418 rfl rfl <| ok_iconst (pc' := 420) i195_419 rfl <| ok_iconst (pc' := 421) i195_420 rfl <| ?_
  refine ok_cc i195_421 rfl (cl_v o195 m17_50 na192 rfl rfl (bt rfl) (bt rfl) rfl (by rw [(YI.dr H).1, o192])) ln192 (pd192 (aR 100) (aI 1) (aI 3)) <| (Ok.deep (t192 (YI.dr H) ⟨by omega, by omega⟩ (by omega)) (by omega)).mono (fun o9 g18d M18d p18d => ?_)
  obtain ⟨v18, rfl, hl18, hh18, eg18, em18⟩ := p18d
  have H18 := YI.dw H (by omega)
  rw [← em18, ← eg18] at H18
  clear em18 eg18
  have hY18 := YI.y H18
  have hcy18 := YI.c H18
  have hzy18 := (YI.sb H18).z
  have hny18 := H_n H18
  refine kt_v (pc' := 424) rfl <| ?_
  refine ok_nia (pc' := 426) i195_424 (by omega) rfl (fun x g19a M19a hx19 hn19 hA19 e19 => ?_)
  have hX19 := XR.new H18 hx19 hn19 hA19
  have H19 := YI.f0 H18 e19
  have hY19 := YI.y H19
  have hcy19 := YI.c H19
  have hzy19 := (YI.sb H19).z
  have hny19 := H_n H19
  refine ok_astoren (pc' := 427) (ls' := [aR 101, aR 100, aI c, aR x, w4, w5, w6]) i195_426 (bt rfl) rfl rfl <| ok_aloadn (pc' := 428) i195_427 rfl rfl <| ok_getfr (r := 102) (pc' := 431) i195_428 o195 gr17_14 (hY19.gr.ky) (YI.r H19) rfl <| ok_ldcz (pc' := 433) i195_431 o195 cn17_92 sr17_92 rfl <| ?_
  have hst := BS.str (YI.bs H19) (j := 13) (by decide)
  refine ok_cc i195_433 rfl (cl_v o195 m17_69 na183 rfl rfl (bt rfl) (bt rfl) rfl (by rw [(YI.sb H19).k, o183])) ln183 (pd183 (aR 102) (aR 36)) <| (Ok.deep (sbS (m := 8) (tx := stx 13) (YI.sb H19) hst.1 rfl (by decide) (by decide) (by decide) (fun i i0 i1 => ⟨hst.2 i i0 i1, tb (P := fun i => 0 ≤ stx 13 i ∧ stx 13 i ≤ 127) (m := 8) (by decide) i i0 i1⟩) (by omega) (by omega)) (by omega)).mono (fun o9 g20p M20p p20p => ?_)
  obtain ⟨rfl, V20, C20, hSp20, hGp20⟩ := p20p
  have hX20 := XR.ap hX19 H19 hGp20
  have H20 := YI.ap H19 hSp20 hGp20 (by rw [sayW_1]; show _ + ((8 : Nat) : Int) ≤ _; omega)
  obtain ⟨t20, ht20⟩ : ∃ z : Tx, z = sayW t (stx 13) (stn 13) := ⟨_, rfl⟩
  rw [← ht20] at H20
  clear hSp20 hGp20
  have hl20 : t20.1 = t.1 + 8 := by rw [ht20]; exact sayW_1 _
  have hY20 := YI.y H20
  have hcy20 := YI.c H20
  have hzy20 := (YI.sb H20).z
  have hny20 := H_n H20
  refine kt_v (pc' := 436) rfl <| ok_pop (pc' := 437) i195_436 rfl rfl <| ok_iconst (pc' := 438) i195_437 rfl <| ok_istore (pc' := 440) (ls' := [aR 101, aR 100, aI c, aR x, aI 0, w5, w6]) i195_438 (bt rfl) rfl rfl <| ?_
  refine w195_440 (dd := dd) H20 hX20 h5 ⟨by omega, by omega⟩ ⟨by omega, by omega⟩ ⟨by omega, by omega⟩ hw5 hw6 (fun g7 M7 d7 xs V7 C7 f H7 hX7 hlen hxs hf hd7 ht7 => ?_)
  have hn7 := H_n H7
  have hY7 := YI.y H7
  refine ok_aloadn (pc' := 482) i195_481 rfl rfl <| ok_getfr (r := 105) (pc' := 485) i195_482 o195 gr17_26 (hY7.gr.ky) (hY7.gr.r2) rfl <| ok_aloadn (pc' := 486) i195_485 rfl rfl <| ok_getfi (v := (q 1)) (pc' := 489) i195_486 o195 gi17_94 (hY7.gr.ky) (hY7.mr.q1) rfl <| ok_aloadn (pc' := 490) i195_489 rfl rfl <| ?_
  refine ok_aastF (pc' := 491) i195_490 (Or.inr (Or.inl ⟨hY7.gr.k5, hX7.1.1⟩)) (by rw [hY7.gr.l5]; omega) rfl (fun g8 n8 z8 r8 k8 o8 s8 => ?_)
  obtain ⟨hY8, H8⟩ := pat_in H7 hX7 (by omega) hQ (by omega) (by omega) hlen hf n8 z8 r8 k8 o8 s8
  refine ok_aloadn (pc' := 492) i195_491 rfl rfl <| ok_dup (pc' := 493) i195_492 rfl rfl <| ok_getfi (v := (q 1)) (pc' := 496) i195_493 o195 gi17_94 (hY8.gr.ky) (hY8.mr.q1) rfl <| ok_iconst (pc' := 497) i195_496 rfl <| ok_iadd (v := ((q 1) + 1)) (pc' := 498) i195_497 rfl rfl <| ok_putfj (kk := 9) (pc' := 501) i195_498 o195 pi195_94 (hY8.gr.ky) rfl rfl <| ok_iinc (pc' := 504) (v := (c + (-1))) (ls' := [aR 101, aR 100, aI (c + (-1)), aR x, aI v18, w5, w6]) i195_501 rfl rfl rfl rfl <| ok_goto (pc' := 414) i195_504 rfl <| ?_
  obtain ⟨y, ys, hys⟩ : ∃ y ys, xs = y :: ys := by
    cases xs with
    | nil => exact absurd hlen (by show ¬ (((0 : Nat) : Int) = _); omega)
    | cons y ys => exact ⟨y, ys, rfl⟩
  have hlen2 : (ys.length : Int) + 1 = (xs.length : Int) := by rw [hys]; show _ = ((ys.length + 1 : Nat) : Int); omega
  have hPI2 : PI (patT t20 xs) (patQ (entP q) xs) s := by
    rw [hys, ht20]
    exact PI_pattern hPI (by omega) (by omega) (fun z hz => by have := hxs z (by rw [hys]; exact hz); omega)
  have hq9 := patQ_f (p := q 1) (by omega) xs (entP q) 0 (entP_g (by omega)).1 (entP_g (by omega)).2.1 (by omega) (by omega)
  exact ih (j + 1) _ _ _ (by omega) ⟨c + (-1), d7, _, _, _, _, _, _, _, _, _, by omega, by rw [hq9.1]; omega, by rw [hq9.2.2.2 0 (by omega) (Or.inl (by omega)), (entP_g (q := q) (by omega)).2.2 0 (by omega) (by omega)]; exact hq00, YI.up H8 (by omega) (by omega), hPI2, by omega, by omega, rfl, rfl, hw5, hw6, rfl⟩
