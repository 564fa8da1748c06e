/-! FILLING (by program, wip/gen) -/
theorem t47q {b : Int} {q s : Int → Int} (hV : Val b q s) {p : Int} (h : r47 s p ≠ -1) : (1 ≤ r47 s p ∧ r47 s p ≤ 200) ∧ (0 ≤ r34 s (r47 s p) p ∧ r34 s (r47 s p) p < s 3) ∧ r47 s p ≤ s (94 + r34 s (r47 s p) p) := by
  have h := p_next hV h
  exact ⟨⟨h.2.1, h.2.2.1⟩, ⟨h.2.2.2.2.1, h.2.2.2.2.2.1⟩, h.2.2.2.2.2.2.1⟩
theorem t241q {b : Int} {q s : Int → Int} (hV : Val b q s) {p : Int} (h : 0 < r241 s p) : (1 ≤ r241 s p ∧ r241 s p ≤ 200) ∧ (0 ≤ r213 s (r241 s p) p ∧ r213 s (r241 s p) p < s 3) ∧ r241 s p ≤ s (94 + r213 s (r241 s p) p) ∧ cutS q s (r213 s (r241 s p) p) (r241 s p) = stepS q s p ∧ r47 s p ≠ -1 := by
  have h1 : r47 s p ≠ -1 := fun h9 => by have := (p_none hV (p := p)).mpr h9; omega
  have h := p_next hV h1
  rw [h.1, h.2.2.2.1]
  exact ⟨⟨h.2.1, h.2.2.1⟩, ⟨h.2.2.2.2.1, h.2.2.2.2.2.1⟩, h.2.2.2.2.2.2.1, rfl, h1⟩
theorem cut_11 {b : Int} {q s : Int → Int} (hV : Val b q s) {r x : Int} (hr : 0 ≤ r ∧ r < s 3) (hx : 1 ≤ x) : cutS q s r x 11 = s 11 + 1 := by
  have y3 := V_3 hV
  rw [cut_rd (V_5 hV).1 (by omega), put_rd (by omega) (r218_rg hV hx) (by omega)]
  unfold cutA
  simp only [upI]
  grind (splits := 40)
theorem step_11 {b : Int} {q s : Int → Int} (hV : Val b q s) {p : Int} (h : r47 s p ≠ -1) : stepS q s p 11 = s 11 + 1 := by
  have h := p_next hV h
  exact cut_11 hV ⟨by omega, by omega⟩ (by omega)
/-- the filling's end -/
theorem fill_end {b : Int} {q s a : Int → Int} {p i : Int} (hV : Val b q a) (h : r47 a p = -1) (hi : 0 ≤ i ∧ i ≤ 144) (e : itx (fillF q p) s 0 i.toNat = .inl a) : fillX q s p = (a, i) := by
  unfold fillX
  by_cases h4 : i = 144
  · subst h4
    rw [show (144 : Nat) = (144 : Int).toNat from rfl, e]
    rfl
  · have e1 : itx (fillF q p) s 0 (i.toNat + 1) = .inr (a, i) := by
      rw [itx, e]
      show fillF q p (0 + (i.toNat : Int)) a = _
      rw [Int.zero_add, Int.toNat_of_nonneg hi.1]
      unfold fillF
      rw [if_pos h]
    rw [itx_out e1 144 (by omega)]
    rfl
theorem fill_go {b : Int} {q s a : Int → Int} {p i : Int} (hV : Val b q a) (h : r47 a p ≠ -1) (hi : 0 ≤ i) (e : itx (fillF q p) s 0 i.toNat = .inl a) : itx (fillF q p) s 0 (i + 1).toNat = .inl (stepS q a p) := by
  rw [show (i + 1).toNat = i.toNat + 1 by omega, itx, e]
  show fillF q p (0 + (i.toNat : Int)) a = _
  unfold fillF
  rw [if_neg h]
theorem o46 : am_oc 46 = 8 := by decide +kernel
theorem m8_106 : am_mlk 8 106 0 47 = true := by decide +kernel
theorem na47 : am_na 47 = 1 := by decide +kernel
theorem nl47 : am_nL 47 = 5 := by decide +kernel
theorem pd47 : ∀ a0 a1 : AV, am_pad 47 [a0, a1] = [a0, a1, aU, aU, aU] := by intros; unfold am_pad; rw [nl47]; rfl
theorem ln47 : 2 ≤ am_nL 47 := by rw [nl47]; decide
theorem m8_109 : am_mlk 8 109 0 34 = true := by decide +kernel
theorem na34 : am_na 34 = 2 := by decide +kernel
theorem nl34 : am_nL 34 = 5 := by decide +kernel
theorem pd34 : ∀ a0 a1 a2 : AV, am_pad 34 [a0, a1, a2] = [a0, a1, a2, aU, aU] := by intros; unfold am_pad; rw [nl34]; rfl
theorem ln34 : 3 ≤ am_nL 34 := by rw [nl34]; decide
theorem rt46 : am_rt 46 = some .int := by decide +kernel
theorem t46 {g : AG} {M : AM} {W P B : Nat} {q s : Int → Int} {b : Int} {x1 : Int} (hSW : ShWorks g W P B) (hSP : ShPlan g P) (hSB : ShState g B) (hRP : RepP M P q) (hRB : RepS M B s) (hQ : ValQ q) (hV : Val b q s) (h1 : 0 ≤ x1 ∧ x1 < 3) (h9 : P + 11 ≤ B ∨ B + 24 ≤ P) :
    Ok 2 46 0 [aR W, aI x1, aU, aU, aU] [] g M (Rt (some (aI (fillN q s x1))) g (fun M9 => RepS M9 B (fillS q s x1) ∧ Wr B 24 M M9)) := by
  refine ok_iconst (pc' := 1) i46_0 rfl <| ok_istoren (pc' := 2) (ls' := [aR W, aI x1, aI 0, aU, aU]) i46_1 (bt rfl) rfl rfl <| ?_
  refine ok_forx (lo := 0) (n := 144) (f := fillF q x1) (a0 := s) (fun x2 t ls M9 => RepS M9 B t ∧ Wr B 24 M M9 ∧ Val b q t ∧ ∃ w3 w4 : AV, am_cat w3 = 1 ∧ am_cat w4 = 1 ∧ ls = [aR W, aI x1, aI x2, w3, w4]) ?_ ?_ _ _ ⟨hRB, Wr.rfl, hV, aU, aU, rfl, rfl, rfl⟩
  · rintro x2 t ls M9 g1 g2 ⟨hR9, hW9, hV9, w3, w4, hw3, hw4, rfl⟩ hr ih
    have g3 : x2 < 144 := by omega
    have hP9 : RepP M9 P q := RepP.fr hRP (fun a h1 h2 => hW9 a (by omega))
    have yt3 := V_3 hV9
    have yt4 := V_4 hV9
    refine ok_iloadn (pc' := 3) i46_2 rfl rfl <| ok_sipush (v := 144) (pc' := 6) i46_3 rfl rfl <| ?_
    refine ok_cge (pc1 := 54) (pc2 := 9) i46_6 (by omega) rfl rfl (fun h9 => by exfalso; omega) (fun h1 => ?_)
    refine ok_aloadn (pc' := 10) i46_9 rfl rfl <| ok_iloadn (pc' := 11) i46_10 rfl rfl <| ok_cp (pc' := 14) (d0 := 1) i46_11 rfl (cl_v o46 m8_106 na47 rfl rfl (bt rfl) (bt rfl) rfl (by rw [ShWorks_k0 hSW, o47])) ln47 (pd47 (aR W) (aI x1)) (by omega) (t47 (x1 := x1) hSW hSP hSB hP9 hR9 hQ hV9 (by omega)) rfl <| ?_
    have z61 : -1 ≤ (r47 t x1) ∧ (r47 t x1) ≤ 200 := x47 (M := M9) (x1 := x1) hSW hSP hSB hP9 hR9 hQ hV9 (by omega)
    refine ok_istoren (pc' := 15) (ls' := [aR W, aI x1, aI x2, aI (r47 t x1), w4]) i46_14 (bt rfl) rfl rfl <| ok_iloadn (pc' := 16) i46_15 rfl rfl <| ok_iconst (pc' := 17) i46_16 rfl <| ?_
    refine ok_cne (pc1 := 24) (pc2 := 20) i46_17 (by omega) rfl rfl (fun h2 => ?_) (fun h2 => ?_)
    · refine ok_aloadn (pc' := 25) i46_24 rfl rfl <| ok_iloadn (pc' := 26) i46_25 rfl rfl <| ok_iloadn (pc' := 27) i46_26 rfl rfl <| ok_cp (pc' := 30) (d0 := 1) i46_27 rfl (cl_v o46 m8_109 na34 rfl rfl (bt rfl) (bt rfl) rfl (by rw [ShWorks_k0 hSW, o34])) ln34 (pd34 (aR W) (aI (r47 t x1)) (aI x1)) (by omega) (t34 (x1 := (r47 t x1)) (x2 := x1) hSW hSP hSB hP9 hR9 hQ hV9 (by omega) (by omega)) rfl <| ?_
      have z62 : (1 ≤ (r47 t x1) ∧ (r47 t x1) ≤ 200) ∧ (0 ≤ (r34 t (r47 t x1) x1) ∧ (r34 t (r47 t x1) x1) < t 3) ∧ (r47 t x1) ≤ (t (94 + (r34 t (r47 t x1) x1))) := t47q hV9 (by omega)
      refine ok_istore (pc' := 32) (ls' := [aR W, aI x1, aI x2, aI (r47 t x1), aI (r34 t (r47 t x1) x1)]) i46_30 (bt rfl) rfl rfl <| ok_iload (pc' := 34) i46_32 rfl rfl <| ok_iconst (pc' := 35) i46_34 rfl <| ?_
      refine ok_cne (pc1 := 40) (pc2 := 38) i46_35 (by omega) rfl rfl (fun h3 => ?_) (fun h9 => by exfalso; omega)
      refine ok_aloadn (pc' := 41) i46_40 rfl rfl <| ok_iload (pc' := 43) i46_41 rfl rfl <| ok_iloadn (pc' := 44) i46_43 rfl rfl <| ?_
      refine ok_cn (pc' := 47) (d0 := 1) i46_44 rfl (cl_v o46 m8_96 na44 rfl rfl (bt rfl) (bt rfl) rfl (by rw [ShWorks_k0 hSW, o44])) ln44 (pd44 (aR W) (aI (r34 t (r47 t x1) x1)) (aI (r47 t x1))) (by omega) (t44 (x1 := (r34 t (r47 t x1) x1)) (x2 := (r47 t x1)) hSW hSP hSB hP9 hR9 hQ hV9 (by omega) (by omega) (by omega)) rfl (fun M4 p5 => ?_)
      obtain ⟨s4, hs4⟩ : ∃ u9 : Int → Int, u9 = cutS q t (r34 t (r47 t x1) x1) (r47 t x1) := ⟨_, rfl⟩
      rw [← hs4] at p5
      have hRM4 : RepS M4 B s4 := p5.1
      have hPM4P : RepP M4 P q := RepP.fr hP9 (fun a h1 h2 => p5.2 a (by omega))
      have hVM4 : Val (b) q s4 := by rw [hs4]; exact (V_step hV9 (p := x1) (by omega)).1
      have z63 : 0 ≤ s4 3 ∧ s4 3 ≤ 80 := V_3 hVM4
      have z64 : 0 ≤ s4 4 ∧ s4 4 ≤ 16 := V_4 hVM4
      refine ok_pop (pc' := 48) i46_47 rfl rfl <| ok_iinc (pc' := 51) (v := (x2 + 1)) (ls' := [aR W, aI x1, aI (x2 + 1), aI (r47 t x1), aI (r34 t (r47 t x1) x1)]) i46_48 rfl rfl rfl rfl <| ok_goto (pc' := 2) i46_51 rfl <| ?_
      have e : fillF q x1 x2 t = .inl s4 := by unfold fillF; rw [if_neg (by omega), hs4]; rfl
      exact ih _ _ _ e ⟨hRM4, Wr.trans hW9 p5.2, hVM4, _, _, rfl, rfl, rfl⟩
    · refine ok_iconst (pc' := 21) i46_20 rfl <| ok_goto (pc' := 30) i46_21 rfl <| ok_istore (pc' := 32) (ls' := [aR W, aI x1, aI x2, aI (r47 t x1), aI (-1)]) i46_30 (bt rfl) rfl rfl <| ok_iload (pc' := 34) i46_32 rfl rfl <| ok_iconst (pc' := 35) i46_34 rfl <| ok_kc0 (pc1 := 40) (pc2 := 38) i46_35 (by decide) rfl rfl <| ok_iloadn (pc' := 39) i46_38 rfl rfl <| ok_ireti i46_39 rt46 <| ?_
      have e : fillF q x1 x2 t = .inr (t, x2) := by unfold fillF; rw [if_pos (by omega)]
      have e3 : fillX q s x1 = (t, x2) := by unfold fillX; rw [hr _ e]; rfl
      exact ⟨by unfold fillN; rw [e3], rfl, by unfold fillS; rw [e3]; exact hR9, hW9⟩
  · rintro x2 t ls M9 g1 g2 ⟨hR9, hW9, hV9, w3, w4, hw3, hw4, rfl⟩
    have g3 : x2 = 144 := by omega
    have hP9 : RepP M9 P q := RepP.fr hRP (fun a h1 h2 => hW9 a (by omega))
    have yt3 := V_3 hV9
    have yt4 := V_4 hV9
    refine ok_iloadn (pc' := 3) i46_2 rfl rfl <| ok_sipush (v := 144) (pc' := 6) i46_3 rfl rfl <| ?_
    refine ok_cge (pc1 := 54) (pc2 := 9) i46_6 (by omega) rfl rfl (fun h1 => ?_) (fun h9 => by exfalso; omega)
    refine ok_sipush (v := 144) (pc' := 57) i46_54 rfl rfl <| ok_ireti i46_57 rt46 <| ?_
    have e3 : fillX q s x1 = (t, 144) := by unfold fillX; rw [g2]; rfl
    exact ⟨by unfold fillN; rw [e3], rfl, by unfold fillS; rw [e3]; exact hR9, hW9⟩
