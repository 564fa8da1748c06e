/-! PATTERNS CUT (by program, wip/gen) -/
/-! patterns -/
theorem r37_out {q s : Int → Int} {p r : Int} {k : Nat} (hk : k ≤ (q (10 + p)).toNat) (e : itx (f37 q s p) (s (94 + r)) 0 k = .inl (-1)) : r37 q s p r = -1 := by
  unfold r37
  by_cases h : k = (q (10 + p)).toNat
  · rw [← h, e]
    rfl
  · have e1 : itx (f37 q s p) (s (94 + r)) 0 (k + 1) = .inr (-1) := by
      rw [itx, e]
      show f37 q s p _ (-1) = _
      unfold f37
      rw [if_pos rfl]
    rw [itx_out e1 (q (10 + p)).toNat (by omega)]
    rfl
theorem pfit {q s : Int → Int} {p r k l : Int} (h : r37 q s p r ≠ -1) (hk : 0 ≤ k ∧ k < q (10 + p)) (e : itx (f37 q s p) (s (94 + r)) 0 k.toNat = .inl l) : q (16 + ((6 * p) + k)) ≤ l ∧ itx (f37 q s p) (s (94 + r)) 0 (k + 1).toNat = .inl (max 0 ((l - q (16 + ((6 * p) + k))) - s 1)) := by
  have hl : l ≠ -1 := fun hl => h (r37_out (k := k.toNat) (by omega) (by rw [e, hl]))
  have e1 : (k + 1).toNat = k.toNat + 1 := by omega
  have e2 : itx (f37 q s p) (s (94 + r)) 0 (k + 1).toNat = f37 q s p k l := by
    rw [e1, itx, e]
    show f37 q s p (0 + (k.toNat : Int)) l = _
    rw [Int.zero_add, Int.toNat_of_nonneg hk.1]
  have hc : q (16 + ((6 * p) + k)) ≤ l := by
    refine Classical.byContradiction (fun hc => h (r37_out (k := (k + 1).toNat) (by omega) ?_))
    rw [e2]
    unfold f37
    rw [if_neg hl, if_neg hc]
  refine ⟨hc, ?_⟩
  rw [e2]
  unfold f37
  rw [if_neg hl, if_pos hc]
def patF (q : Int → Int) (p r : Int) (k : Int) (a : (Int → Int) × Int) : (Int → Int) × Int := (cutS q a.1 r (q (16 + ((6 * p) + k))), if r218 a.1 (q (16 + ((6 * p) + k))) = -1 then a.2 + 1 else a.2)
def patL (q s : Int → Int) (p r : Int) : (Int → Int) × Int := itv (patF q p r) (s, 0) 0 (q (10 + p)).toNat
def patS (q s : Int → Int) (p r : Int) : Int → Int := (patL q s p r).1
def patN (q s : Int → Int) (p r : Int) : Int := (patL q s p r).2
theorem cut_94 {b : Int} {q s : Int → Int} (hV : Val b q s) {r x : Int} (hr : 0 ≤ r ∧ r < s 3) (hx : 1 ≤ x) : cutS q s r x (94 + r) = max 0 ((s (94 + r) - x) - s 1) := by
  have y3 := V_3 hV
  have h := (cut_rod (q := q) (V_5 hV).1 (show 0 ≤ r ∧ r < 80 by omega) hx (r218_rg hV hx) (i := r) (by omega)).2.1
  rw [h, if_pos rfl]
  rfl
theorem cut_13 {b : Int} {q s : Int → Int} (hV : Val b q s) {r x k : Int} (hr : 0 ≤ r ∧ r < s 3) (hx : 1 ≤ x) (hk : k = 0 ∨ k = 1 ∨ k = 2 ∨ k = 3 ∨ k = 4) : cutS q s r x k = s k := by
  have y3 := V_3 hV
  have := r218_rg hV hx
  exact cut_lo (V_5 hV).1 (by omega) hx hk (by omega)
/-- a pattern's pieces, one by one: what holds on the way -/
theorem pat_step {b : Int} {q s t : Int → Int} {p r k c : Int} (hV : Val b q t) (hp : 0 ≤ p ∧ p < q 1) (hr : 0 ≤ r ∧ r < s 3) (e1 : t 1 = s 1) (e3 : t 3 = s 3) (hb : b + 1 ≤ 1000000) (h : r37 q s p r ≠ -1) (hk : 0 ≤ k ∧ k < q (10 + p)) (e : itx (f37 q s p) (s (94 + r)) 0 k.toNat = .inl (t (94 + r))) :
    Val (b + 1) q (patF q p r k (t, c)).1 ∧ itx (f37 q s p) (s (94 + r)) 0 (k + 1).toNat = .inl ((patF q p r k (t, c)).1 (94 + r)) ∧ (patF q p r k (t, c)).1 1 = s 1 ∧ (patF q p r k (t, c)).1 3 = s 3 ∧ 1 ≤ q (16 + ((6 * p) + k)) ∧ q (16 + ((6 * p) + k)) ≤ t (94 + r) := by
  have h1 := pfit h hk e
  have hx := Q_16 (V_q hV) hp.1 hp.2 hk.1 hk.2
  refine ⟨V_cut hV ⟨hr.1, by omega⟩ ⟨hx.1, h1.1⟩ ⟨by omega, hb⟩ (fun _ => by omega), ?_, ?_, ?_, hx.1, h1.1⟩
  · rw [h1.2]
    show _ = Sum.inl (cutS q t r _ (94 + r))
    rw [cut_94 hV ⟨hr.1, by omega⟩ hx.1, e1]
  · show cutS q t r _ 1 = s 1
    rw [cut_13 hV ⟨hr.1, by omega⟩ hx.1 (by omega)]
    exact e1
  · show cutS q t r _ 3 = s 3
    rw [cut_13 hV ⟨hr.1, by omega⟩ hx.1 (by omega)]
    exact e3
theorem o43 : am_oc 43 = 8 := by decide +kernel
theorem m8_96 : am_mlk 8 96 0 44 = true := by decide +kernel
theorem na44 : am_na 44 = 2 := by decide +kernel
theorem nl44 : am_nL 44 = 6 := by decide +kernel
theorem pd44 : ∀ a0 a1 a2 : AV, am_pad 44 [a0, a1, a2] = [a0, a1, a2, aU, aU, aU] := by intros; unfold am_pad; rw [nl44]; rfl
theorem ln44 : 3 ≤ am_nL 44 := by rw [nl44]; decide
theorem rt43 : am_rt 43 = some .int := by decide +kernel
theorem t43 {g : AG} {M : AM} {W P B : Nat} {q s : Int → Int} {b : Int} {x1 x2 : Int} (hSW : ShWorks g W P B) (hSP : ShPlan g P) (hSB : ShState g B) (hRP : RepP M P q) (hRB : RepS M B s) (hQ : ValQ q) (hV : Val b q s) (h1 : 0 ≤ x1 ∧ x1 < q 1) (h2 : 0 ≤ x2 ∧ x2 < s 3) (h3 : r37 q s x1 x2 ≠ -1) (hb : b + 6 ≤ 1000000) (h9 : P + 11 ≤ B ∨ B + 24 ≤ P) :
    Ok 2 43 0 [aR W, aI x1, aI x2, aU, aU, aU] [] g M (Rt (some (aI (patN q s x1 x2))) g (fun M9 => RepS M9 B (patS q s x1 x2) ∧ Wr B 24 M M9)) := by
  have yq0 : 0 ≤ q 0 ∧ q 0 ≤ 4 := Q_0 hQ
  have yq1 : 0 ≤ q 1 ∧ q 1 ≤ 6 := Q_1 hQ
  have ys3 : 0 ≤ s 3 ∧ s 3 ≤ 80 := V_3 hV
  have ys4 : 0 ≤ s 4 ∧ s 4 ≤ 16 := V_4 hV
  have t1 : 1 ≤ q (10 + x1) ∧ q (10 + x1) ≤ 6 := Q_10 hQ (by omega) (by omega)
  refine ok_aloadn (pc' := 1) i43_0 rfl rfl <| ok_getfr (r := P) (pc' := 4) i43_1 o43 gr8_9 (ShWorks_k0 hSW) (ShWorks_r0 hSW) rfl <| ok_getfr (r := (P + 3)) (pc' := 7) i43_4 o43 gr8_40 (ShPlan_k0 hSP) (ShPlan_r4 hSP) rfl <| ok_iloadn (pc' := 8) i43_7 rfl rfl <| ?_
  have z1 : 1 ≤ q (10 + x1) ∧ q (10 + x1) ≤ 6 := Q_10 hQ (i := x1) (by omega) (by omega)
  refine ok_iaload (v := (q (10 + x1))) (pc' := 9) i43_8 (ShPlan_k3 hSP) (by decide) (ShPlan_l3 hSP) (by omega) (RepP_3 hRP (by omega) (by omega)) rfl <| ok_istoren (pc' := 10) (ls' := [aR W, aI x1, aI x2, aI (q (10 + x1)), aU, aU]) i43_9 (bt rfl) rfl rfl <| ok_iconst (pc' := 11) i43_10 rfl <| ok_istore (pc' := 13) (ls' := [aR W, aI x1, aI x2, aI (q (10 + x1)), aI 0, aU]) i43_11 (bt rfl) rfl rfl <| ok_iconst (pc' := 14) i43_13 rfl <| ok_istore (pc' := 16) (ls' := [aR W, aI x1, aI x2, aI (q (10 + x1)), aI 0, aI 0]) i43_14 (bt rfl) rfl rfl <| ?_
  refine ok_for (lo := 0) (n := (q (10 + x1)).toNat) (f := (patF q x1 x2)) (a0 := (s, 0)) (fun x5 a ls M9 => RepS M9 B a.1 ∧ Wr B 24 M M9 ∧ Val (b + x5) q a.1 ∧ (itx (f37 q s x1) (s (94 + x2)) 0 (x5).toNat = .inl (a.1 (94 + x2))) ∧ (a.1 1 = s 1) ∧ (a.1 3 = s 3) ∧ ls = [aR W, aI x1, aI x2, aI (q (10 + x1)), aI a.2, aI x5]) ?_ ?_ _ _ ⟨hRB, Wr.rfl, by rw [Int.add_zero]; exact hV, rfl, rfl, rfl, rfl⟩
  · rintro x5 ⟨t, x4⟩ ls M9 g1 g2 ⟨hR9, hW9, hV9, e_fit, e_k1, e_k3, rfl⟩ ih
    dsimp only at *
    have g3 : x5 < q (10 + x1) := by omega
    have hP9 : RepP M9 P q := RepP.fr hRP (fun a h1 h2 => hW9 a (by omega))
    have yt3 := V_3 hV9
    have yt4 := V_4 hV9
    have f9 : _ := pat_step (c := x4) hV9 h1 h2 e_k1 e_k3 (by omega) h3 (show 0 ≤ x5 ∧ x5 < q (10 + x1) by omega) e_fit
    have f8 : 1 ≤ q (16 + ((6 * x1) + x5)) ∧ q (16 + ((6 * x1) + x5)) ≤ t (94 + x2) := f9.2.2.2.2
    refine ok_iload (pc' := 18) i43_16 rfl rfl <| ok_iloadn (pc' := 19) i43_18 rfl rfl <| ?_
    refine ok_cge (pc1 := 52) (pc2 := 22) i43_19 (by omega) rfl rfl (fun h9 => by exfalso; omega) (fun h1 => ?_)
    refine ok_aloadn (pc' := 23) i43_22 rfl rfl <| ok_iloadn (pc' := 24) i43_23 rfl rfl <| ok_aloadn (pc' := 25) i43_24 rfl rfl <| ok_getfr (r := P) (pc' := 28) i43_25 o43 gr8_9 (ShWorks_k0 hSW) (ShWorks_r0 hSW) rfl <| ok_getfr (r := (P + 4)) (pc' := 31) i43_28 o43 gr8_43 (ShPlan_k0 hSP) (ShPlan_r5 hSP) rfl <| ok_iloadn (pc' := 32) i43_31 rfl rfl <| ok_aaload (r := (P + 5 + x1.toNat)) (pc' := 33) i43_32 (ShPlan_k4 hSP) (by decide) (ShPlan_l4 hSP) (by omega) (ShPlan_ev4 hSP (by omega) (by omega)) rfl <| ok_iload (pc' := 35) i43_33 rfl rfl <| ?_
    have z61 : 1 ≤ q (16 + ((6 * x1) + x5)) ∧ q (16 + ((6 * x1) + x5)) ≤ 200 := Q_16 hQ (w := x1) (i := x5) (by omega) (by omega) (by omega) (by omega)
    refine ok_iaload (v := (q (16 + ((6 * x1) + x5)))) (pc' := 36) i43_35 (ShPlan_kv4 hSP (by omega) (by omega)) (by decide) (ShPlan_lv4 hSP (by omega) (by omega)) (by omega) (RepP_pv hP9 (by omega) (by omega) (by omega) (by omega) (by omega)) rfl <| ?_
    refine ok_cn (pc' := 39) (d0 := 1) i43_36 rfl (cl_v o43 m8_96 na44 rfl rfl (bt rfl) (bt rfl) rfl (by rw [ShWorks_k0 hSW, o44])) ln44 (pd44 (aR W) (aI x2) (aI (q (16 + ((6 * x1) + x5))))) (by decide) (t44 (x1 := x2) (x2 := (q (16 + ((6 * x1) + x5)))) hSW hSP hSB hP9 hR9 hQ hV9 (by omega) (by omega) (by omega)) rfl (fun M2 p3 => ?_)
    obtain ⟨s2, hs2⟩ : ∃ u9 : Int → Int, u9 = cutS q t x2 (q (16 + ((6 * x1) + x5))) := ⟨_, rfl⟩
    rw [← hs2] at p3
    have hRM2 : RepS M2 B s2 := p3.1
    have hPM2P : RepP M2 P q := RepP.fr hP9 (fun a h1 h2 => p3.2 a (by omega))
    have hVM2 : Val (b + (x5 + 1)) q s2 := by rw [hs2]; exact V_cut hV9 ⟨by omega, by omega⟩ ⟨by omega, by omega⟩ ⟨by omega, by omega⟩ (fun _ => by omega)
    have z62 : 0 ≤ s2 3 ∧ s2 3 ≤ 80 := V_3 hVM2
    have z63 : 0 ≤ s2 4 ∧ s2 4 ≤ 16 := V_4 hVM2
    have z64 : -1 ≤ r218 t (q (16 + ((6 * x1) + x5))) ∧ r218 t (q (16 + ((6 * x1) + x5))) < 16 := by have := r218_rg hV9 (x := (q (16 + ((6 * x1) + x5)))) (by omega); omega
    refine ok_iconst (pc' := 40) i43_39 rfl <| ?_
    refine ok_cne (pc1 := 46) (pc2 := 43) i43_40 (by omega) rfl rfl (fun h4 => ?_) (fun h4 => ?_)
    · refine ok_iinc (pc' := 49) (v := (x5 + 1)) (ls' := [aR W, aI x1, aI x2, aI (q (10 + x1)), aI x4, aI (x5 + 1)]) i43_46 rfl rfl rfl rfl <| ok_goto (pc' := 16) i43_49 rfl <| ?_
      have e : (patF q x1 x2) x5 (t, x4) = (s2, x4) := by
        simp only [patF, hs2, if_neg (show ¬ (r218 t (q (16 + ((6 * x1) + x5))) = -1) by omega)]
        all_goals first | rfl | (split <;> rfl) | grind (splits := 40)
      exact ih _ _ ⟨by rw [e]; exact hRM2, Wr.trans hW9 p3.2, (show b + x5 + 1 = b + (x5 + 1) by omega) ▸ f9.1, by rw [e]; rw [← e]; exact f9.2.1, by rw [e]; rw [← e]; exact f9.2.2.1, by rw [e]; rw [← e]; exact f9.2.2.2.1, by rw [e]⟩
    · refine ok_iinc (pc' := 46) (v := (x4 + 1)) (ls' := [aR W, aI x1, aI x2, aI (q (10 + x1)), aI (x4 + 1), aI x5]) i43_43 rfl rfl rfl rfl <| ok_iinc (pc' := 49) (v := (x5 + 1)) (ls' := [aR W, aI x1, aI x2, aI (q (10 + x1)), aI (x4 + 1), aI (x5 + 1)]) i43_46 rfl rfl rfl rfl <| ok_goto (pc' := 16) i43_49 rfl <| ?_
      have e : (patF q x1 x2) x5 (t, x4) = (s2, (x4 + 1)) := by
        simp only [patF, hs2, if_pos (show r218 t (q (16 + ((6 * x1) + x5))) = -1 by omega)]
        all_goals first | rfl | (split <;> rfl) | grind (splits := 40)
      exact ih _ _ ⟨by rw [e]; exact hRM2, Wr.trans hW9 p3.2, (show b + x5 + 1 = b + (x5 + 1) by omega) ▸ f9.1, by rw [e]; rw [← e]; exact f9.2.1, by rw [e]; rw [← e]; exact f9.2.2.1, by rw [e]; rw [← e]; exact f9.2.2.2.1, by rw [e]⟩
  · rintro x5 ⟨t, x4⟩ ls M9 g1 g2 ⟨hR9, hW9, hV9, e_fit, e_k1, e_k3, rfl⟩
    dsimp only at *
    have g3 : x5 = q (10 + x1) := by omega
    have hP9 : RepP M9 P q := RepP.fr hRP (fun a h1 h2 => hW9 a (by omega))
    have yt3 := V_3 hV9
    have yt4 := V_4 hV9
    refine ok_iload (pc' := 18) i43_16 rfl rfl <| ok_iloadn (pc' := 19) i43_18 rfl rfl <| ?_
    refine ok_cge (pc1 := 52) (pc2 := 22) i43_19 (by omega) rfl rfl (fun h1 => ?_) (fun h9 => by exfalso; omega)
    refine ok_iload (pc' := 54) i43_52 rfl rfl <| ok_ireti i43_54 rt43 <| ?_
    have e : patS q s x1 x2 = t := by simp only [patS, patN, patL]; rw [g2]
    have e2 : patN q s x1 x2 = x4 := by simp only [patS, patN, patL]; rw [g2]
    exact ⟨by rw [e2], rfl, by rw [e]; exact hR9, Wr.trans hW9 Wr.rfl⟩
