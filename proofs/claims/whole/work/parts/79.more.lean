/-! CHANGES, MORE: undone, saved, fetched; texts -/
theorem Hst_top {b : Int} {M : AM} {q : Int → Int} {nx sz : Int} (h : Hst b M q nx sz) (h0 : 0 < sz) : ∃ s : Int → Int, RepS M (204 + 24 * (prv nx).toNat) s ∧ KeptAt M sz s ∧ Val b q s ∧ s 3 ≤ 40 := by
  obtain ⟨⟨h1, h2, h2'⟩, ⟨h3, h4, h4'⟩, h5, h6⟩ := h
  obtain ⟨s, r1, r2, r3⟩ := h6 (sz - 1) (by omega) (by omega)
  have e : (nx - sz + (sz - 1)) % 8 = prv nx := by unfold prv; split <;> omega
  rw [e] at r1
  rw [show 1 + (sz - 1) = sz by omega] at r2
  exact ⟨s, r1, r2, r3⟩
theorem Hst_pop {b : Int} {M M9 : AM} {q : Int → Int} {nx sz : Int} (h : Hst b M q nx sz) (h0 : 0 < sz) (c1 : M9 202 1 = prv nx) (c2 : M9 202 2 = sz - 1) (c3 : M9 448 10 = sz - 1) (c4 : ∀ a : Nat, 204 ≤ a → a < 396 → M9 a = M a) (c5 : ∀ y : Int, 983 ≤ y → M9 454 y = M 454 y) : Hst b M9 q (prv nx) (sz - 1) := by
  obtain ⟨⟨h1, h2, h2'⟩, ⟨h3, h4, h4'⟩, h5, h6⟩ := h
  refine ⟨⟨c1, by unfold prv; split <;> omega, by unfold prv; split <;> omega⟩, ⟨c2, by omega, by omega⟩, c3, fun j j0 j1 => ?_⟩
  obtain ⟨s, r1, r2, r3⟩ := h6 j j0 (by omega)
  have e : (prv nx - (sz - 1) + j) % 8 = (nx - sz + j) % 8 := by unfold prv; split <;> omega
  rw [e]
  exact ⟨s, RepS.fr r1 (fun a a0 a1 => c4 a (by omega) (by omega)), KeptAt_fr r2 (by omega) c5, r3⟩
theorem Hst_0 {b : Int} {M9 : AM} {q : Int → Int} {nx : Int} (c1 : M9 202 1 = nx) (hn : 0 ≤ nx ∧ nx < 8) (c2 : M9 202 2 = 0) (c3 : M9 448 10 = 0) : Hst b M9 q nx 0 := ⟨⟨c1, hn⟩, ⟨c2, by omega, by omega⟩, c3, fun j j0 j1 => by omega⟩
/-- a row that is fetched back -/
theorem fetched {b : Int} {M Mx M9 : AM} {A : Nat} {q s h : Int → Int} {k x : Int} (hR : RepS M9 A s) (hK : KeptAt M k s) (hV : Val b q s) (h40 : s 3 ≤ 40) (hx : x = 983 * k) (e : ∀ y : Int, 0 ≤ y → y < 983 → Mx 454 (x + y) = M 454 (983 * k + y)) :
    RepS M9 A (cpI h (fun y => Mx 454 (x + y)) 0 983) ∧ Val b q (cpI h (fun y => Mx 454 (x + y)) 0 983) ∧ (cpI h (fun y => Mx 454 (x + y)) 0 983) 3 ≤ 40 := by
  have c : ∀ y : Int, 0 ≤ y → y < 983 → s y = cpI h (fun y => Mx 454 (x + y)) 0 983 y := fun y y0 y1 => by
    rw [cpI_in (by omega)]
    show s y = Mx 454 (x + (y - 0))
    rw [Int.sub_zero, e y y0 y1, hK y y0 y1]
  exact ⟨RepS_congr hR (V_lim hV) c, Val_congr hV c, by rw [← c 3 (by omega) (by omega)]; exact h40⟩
theorem Inv_undo {xs : Nat → Int32} {b : Int} {M M1 Mx M9 : AM} {q s s1 : Int → Int} {nx sz r z x : Int} (hI : Inv xs b M) (hl : M 100 6 = 1) (hC : Core b M q s) (hH : Hst b M q nx sz) (hS : Slt b M q) (h0 : 0 < sz) (hK : KeptAt M sz s1) (hV1 : Val b q s1) (h41 : s1 3 ≤ 40) (kb : KB M M1 s1 nx sz) (hx : x = sz)
    (ex : Mx = up2 (up2 (up2 M1 464 0 r) 448 0 z) 448 10 (sz - 1)) (e : M9 = upM Mx (448 + 5) (cpI (Mx (448 + 5)) (fun y => Mx (448 + 6) ((983 * x) + y)) 0 983)) : Inv xs b M9 := by
  obtain ⟨hP, hB, hO, hV, hQ, h40⟩ := hC
  obtain ⟨k1, k2, k3, k4⟩ := kb
  have n1 : ∀ c : Nat, c ≠ 448 → c ≠ 453 → c ≠ 464 → M9 c = M1 c := fun c c1 c2 c3 => by rw [e, upM_na c2, ex, up2_na c1, up2_na c1, up2_na c3]
  have nc : ∀ c : Nat, c ≠ 448 → c ≠ 453 → c ≠ 464 → c ≠ 202 → (c < 149 ∨ 173 ≤ c) → M9 c = M c := fun c c1 c2 c3 c4 c5 => (n1 c c1 c2 c3).trans (k4 c c4 c5)
  have ny : ∀ y : Int, y ≠ 0 → y ≠ 10 → M9 448 y = M 448 y := fun y y0 y1 => by rw [e, upM_na (by omega), ex, up2_rd, if_neg (by omega), up2_rd, if_neg (by omega), up2_na (by omega), k4 448 (by omega) (by omega)]
  have n10 : M9 448 10 = sz - 1 := by rw [e, upM_na (by omega), ex, up2_rd, if_pos ⟨rfl, rfl⟩]
  have ex6 : ∀ y : Int, Mx 454 y = M 454 y := fun y => by rw [ex, up2_na (by omega), up2_na (by omega), up2_na (by omega), k4 454 (by omega) (by omega)]
  obtain ⟨f1, f2, f3⟩ := fetched (Mx := Mx) (h := Mx (448 + 5)) (x := 983 * x) (RepS.fr k1 (fun a a0 a1 => n1 a (by omega) (by omega) (by omega))) hK hV1 h41 (by rw [hx]) (fun y y0 y1 => by rw [ex6, hx])
  have e100 : M9 100 = M 100 := nc 100 (by omega) (by omega) (by omega) (by omega) (by omega)
  refine ⟨InvA_same hI.1 ⟨fun y y0 y1 _ => ny y y0 y1, fun c hc => nc c (by omega) (by omega) (by omega) (by omega) (by omega)⟩, ?_⟩
  refine ⟨by rw [e100, ny 1 (by omega) (by omega)]; exact hI.2.1, by rw [e100]; exact Or.inr hl, q, fun _ => ⟨_, RepP.fr hP (fun a a0 a1 => nc a (by omega) (by omega) (by omega) (by omega) (by omega)), f1, ?_, f2, hQ, f3⟩, ⟨prv nx, sz - 1, ?_, fun hl0 => by rw [e100] at hl0; omega⟩, ?_⟩
  · obtain ⟨-, o2, o3, o4, o5, o6, o7⟩ := hO
    have e4 : ∀ c : Nat, 449 ≤ c → c < 453 → M9 c = M c := fun c c0 c1 => nc c (by omega) (by omega) (by omega) (by omega) (by omega)
    exact ⟨by rw [e, upM_at], by rw [ny 2 (by omega) (by omega)]; exact o2, by rw [ny 3 (by omega) (by omega)]; exact o3, by rw [e4 _ (by omega) (by omega)]; exact o4, by rw [e4 _ (by omega) (by omega)]; exact o5, by rw [e4 _ (by omega) (by omega)]; exact o6, by rw [e4 _ (by omega) (by omega)]; exact o7⟩
  · exact Hst_pop hH h0 (by rw [n1 202 (by omega) (by omega) (by omega)]; exact k2) (by rw [n1 202 (by omega) (by omega) (by omega)]; exact k3) n10 (fun a a0 a1 => nc a (by omega) (by omega) (by omega) (by omega) (by omega)) (fun y _ => by rw [nc 454 (by omega) (by omega) (by omega) (by omega) (by omega)])
  · exact Slt_fr hS (nc _ (by omega) (by omega) (by omega) (by omega) (by omega)) (nc _ (by omega) (by omega) (by omega) (by omega) (by omega)) (by rw [e100]) (fun a a0 a1 => nc a (by omega) (by omega) (by omega) (by omega) (by omega)) (fun y _ => by rw [nc 454 (by omega) (by omega) (by omega) (by omega) (by omega)])
theorem fetched_0 {M Mx M9 : AM} {s1 : Int → Int} {x k : Int} (hK : KeptAt M k s1) (hx : x = k) (e : M9 = upM Mx (448 + 5) (cpI (Mx (448 + 5)) (fun y => Mx (448 + 6) ((983 * x) + y)) 0 983)) (e6 : ∀ y : Int, Mx 454 y = M 454 y) : M9 (448 + 5) 0 = s1 0 := by
  rw [e, upM_at, cpI_in (by omega)]
  show Mx 454 (983 * x + (0 - 0)) = s1 0
  rw [e6, hx, Int.sub_zero]
  exact hK 0 (by omega) (by omega)
theorem slot_got {b : Int} {M : AM} {q : Int → Int} {w : Nat} (hS : Slt b M q) (hw : w < 2) (hu : M 445 w = 1) : ∃ s1 : Int → Int, RepS M (397 + 24 * w) s1 ∧ KeptAt M (9 + w) s1 ∧ Val b q s1 ∧ s1 3 ≤ 40 := by
  rcases (hS w hw).2 with h | h
  · omega
  · exact h.2.2
theorem txg_25 {xs : Nat → Int32} (j : Int) : am_M0 xs 25 j = txg j := rfl
theorem txg_rg {j : Int} (h0 : 0 ≤ j) (h1 : j < 5) : 0 ≤ txg j ∧ txg j < 128 := by
  rcases (show j = 0 ∨ j = 1 ∨ j = 2 ∨ j = 3 ∨ j = 4 by omega) with rfl | rfl | rfl | rfl | rfl <;> decide
theorem Inv_restore {xs : Nat → Int32} {b : Int} {M M1 Mx M9 M10 : AM} {q s s1 : Int → Int} {nx sz r z x k : Int} (hI : Inv xs b M) (hl : M 100 6 = 1) (hC : Core b M q s) (hH : Hst b M q nx sz) (hS : Slt b M q) (hK : KeptAt M k s1) (hV1 : Val b q s1) (h41 : s1 3 ≤ 40) (k1 : RepS M1 149 s1) (k4 : Wr 149 24 M M1) (hx : x = k)
    (ex : Mx = up2 (up2 (up2 M1 202 2 0) 464 0 r) 448 0 z) (e : M9 = upM Mx (448 + 5) (cpI (Mx (448 + 5)) (fun y => Mx (448 + 6) ((983 * x) + y)) 0 983)) (e10 : M10 = up2 M9 448 10 0) : Inv xs b M10 := by
  obtain ⟨hP, hB, hO, hV, hQ, h40⟩ := hC
  have n1 : ∀ c : Nat, c ≠ 448 → c ≠ 453 → c ≠ 464 → c ≠ 202 → M10 c = M1 c := fun c c1 c2 c3 c4 => by rw [e10, up2_na c1, e, upM_na c2, ex, up2_na c1, up2_na c3, up2_na c4]
  have nc : ∀ c : Nat, c ≠ 448 → c ≠ 453 → c ≠ 464 → c ≠ 202 → (c < 149 ∨ 173 ≤ c) → M10 c = M c := fun c c1 c2 c3 c4 c5 => (n1 c c1 c2 c3 c4).trans (k4 c (by omega))
  have ny : ∀ y : Int, y ≠ 0 → y ≠ 10 → M10 448 y = M 448 y := fun y y0 y1 => by rw [e10, up2_rd, if_neg (by omega), e, upM_na (by omega), ex, up2_rd, if_neg (by omega), up2_na (by omega), up2_na (by omega), k4 448 (by omega)]
  have n10 : M10 448 10 = 0 := by rw [e10, up2_rd, if_pos ⟨rfl, rfl⟩]
  have ex6 : ∀ y : Int, Mx 454 y = M 454 y := fun y => by rw [ex, up2_na (by omega), up2_na (by omega), up2_na (by omega), k4 454 (by omega)]
  obtain ⟨f1, f2, f3⟩ := fetched (Mx := Mx) (h := Mx (448 + 5)) (x := 983 * x) (RepS.fr k1 (fun a a0 a1 => n1 a (by omega) (by omega) (by omega) (by omega))) hK hV1 h41 (by rw [hx]) (fun y y0 y1 => by rw [ex6, hx])
  have e100 : M10 100 = M 100 := nc 100 (by omega) (by omega) (by omega) (by omega) (by omega)
  refine ⟨InvA_same hI.1 ⟨fun y y0 y1 _ => ny y y0 y1, fun c hc => nc c (by omega) (by omega) (by omega) (by omega) (by omega)⟩, ?_⟩
  refine ⟨by rw [e100, ny 1 (by omega) (by omega)]; exact hI.2.1, by rw [e100]; exact Or.inr hl, q, fun _ => ⟨_, RepP.fr hP (fun a a0 a1 => nc a (by omega) (by omega) (by omega) (by omega) (by omega)), f1, ?_, f2, hQ, f3⟩, ⟨nx, 0, ?_, fun hl0 => rfl⟩, ?_⟩
  · obtain ⟨-, o2, o3, o4, o5, o6, o7⟩ := hO
    have e4 : ∀ c : Nat, 449 ≤ c → c < 453 → M10 c = M c := fun c c0 c1 => nc c (by omega) (by omega) (by omega) (by omega) (by omega)
    exact ⟨by rw [e10, up2_na (by omega), e, upM_at], by rw [ny 2 (by omega) (by omega)]; exact o2, by rw [ny 3 (by omega) (by omega)]; exact o3, by rw [e4 _ (by omega) (by omega)]; exact o4, by rw [e4 _ (by omega) (by omega)]; exact o5, by rw [e4 _ (by omega) (by omega)]; exact o6, by rw [e4 _ (by omega) (by omega)]; exact o7⟩
  · refine Hst_0 ?_ hH.1.2 ?_ n10
    · rw [e10, up2_na (by omega), e, upM_na (by omega), ex, up2_na (by omega), up2_na (by omega), up2_rd, if_neg (by omega), k4 202 (by omega)]; exact hH.1.1
    · rw [e10, up2_na (by omega), e, upM_na (by omega), ex, up2_na (by omega), up2_na (by omega), up2_rd, if_pos ⟨rfl, rfl⟩]
  · exact Slt_fr hS (nc _ (by omega) (by omega) (by omega) (by omega) (by omega)) (nc _ (by omega) (by omega) (by omega) (by omega) (by omega)) (by rw [e100]) (fun a a0 a1 => nc a (by omega) (by omega) (by omega) (by omega) (by omega)) (fun y _ => by rw [nc 454 (by omega) (by omega) (by omega) (by omega) (by omega)])
theorem Inv_save {xs : Nat → Int32} {b : Int} {M M1 Mx M9 M10 : AM} {q s : Int → Int} {nx sz r z x : Int} {w : Nat} (hw : w < 2) (hI : Inv xs b M) (hl : M 100 6 = 1) (hC : Core b M q s) (hH : Hst b M q nx sz) (hS : Slt b M q) (k1 : RepS M1 (397 + 24 * w) s) (k4 : Wr (397 + 24 * w) 24 M M1) (hx : x = 9 + w)
    (ex : Mx = up2 (up2 (up2 M1 445 w 1) 464 0 r) 448 0 z) (e : M9 = upM Mx (448 + 6) (cpI (Mx (448 + 6)) (Mx (448 + 5)) (983 * x) 983)) (e10 : M10 = up2 M9 455 w 1) : Inv xs b M10 := by
  obtain ⟨hP, hB, hO, hV, hQ, h40⟩ := hC
  have n1 : ∀ c : Nat, c ≠ 448 → c ≠ 454 → c ≠ 464 → c ≠ 445 → c ≠ 455 → M10 c = M1 c := fun c c1 c2 c3 c4 c5 => by rw [e10, up2_na c5, e, upM_na c2, ex, up2_na c1, up2_na c3, up2_na c4]
  have nc : ∀ c : Nat, c ≠ 448 → c ≠ 454 → c ≠ 464 → c ≠ 445 → c ≠ 455 → (c < 397 + 24 * w ∨ 421 + 24 * w ≤ c) → M10 c = M c := fun c c1 c2 c3 c4 c5 c6 => (n1 c c1 c2 c3 c4 c5).trans (k4 c (by omega))
  have ny : ∀ y : Int, y ≠ 0 → M10 448 y = M 448 y := fun y y0 => by rw [e10, up2_na (by omega), e, upM_na (by omega), ex, up2_rd, if_neg (by omega), up2_na (by omega), up2_na (by omega), k4 448 (by omega)]
  have m5 : Mx 453 = s := by rw [ex, up2_na (by omega), up2_na (by omega), up2_na (by omega), k4 453 (by omega)]; exact hO.1
  have m6 : Mx 454 = M 454 := by rw [ex, up2_na (by omega), up2_na (by omega), up2_na (by omega), k4 454 (by omega)]
  have m10 : M10 454 = cpI (M 454) s (983 * x) 983 := by
    rw [e10, up2_na (by omega), e, upM_at]
    show cpI (Mx 454) (Mx 453) _ _ = _
    rw [m5, m6]
  have lo : ∀ y : Int, y < 983 * 9 → M10 454 y = M 454 y := fun y hy => by rw [m10, cpI_out (by omega)]
  have e100 : M10 100 = M 100 := nc 100 (by omega) (by omega) (by omega) (by omega) (by omega) (by omega)
  refine ⟨InvA_same hI.1 ⟨fun y y0 y1 _ => ny y y0, fun c hc => nc c (by omega) (by omega) (by omega) (by omega) (by omega) (by omega)⟩, ?_⟩
  refine ⟨by rw [e100, ny 1 (by omega)]; exact hI.2.1, by rw [e100]; exact Or.inr hl, q, fun _ => ⟨s, RepP.fr hP (fun a a0 a1 => nc a (by omega) (by omega) (by omega) (by omega) (by omega) (by omega)), RepS.fr hB (fun a a0 a1 => nc a (by omega) (by omega) (by omega) (by omega) (by omega) (by omega)), RepO.fr hO ⟨ny 2 (by omega), ny 3 (by omega)⟩ (fun a a0 a1 => nc a (by omega) (by omega) (by omega) (by omega) (by omega) (by omega)), hV, hQ, h40⟩, ⟨nx, sz, ?_, fun hl0 => by rw [e100] at hl0; omega⟩, ?_⟩
  · obtain ⟨h1, h2, h3, h4⟩ := hH
    have e202 : M10 202 = M 202 := nc 202 (by omega) (by omega) (by omega) (by omega) (by omega) (by omega)
    refine ⟨by rw [e202]; exact h1, by rw [e202]; exact h2, by rw [ny 10 (by omega)]; exact h3, fun j j0 j1 => ?_⟩
    obtain ⟨t, r1, r2, r3⟩ := h4 j j0 j1
    exact ⟨t, RepS.fr r1 (fun a a0 a1 => nc a (by omega) (by omega) (by omega) (by omega) (by omega) (by omega)), fun y y0 y1 => (lo _ (by omega)).trans (r2 y y0 y1), r3⟩
  · intro i hi
    have e445 : M10 445 i = up2 M1 445 w 1 445 i := by rw [e10, up2_na (by omega), e, upM_na (by omega), ex, up2_na (by omega), up2_na (by omega)]
    have e455 : M10 455 i = up2 M 455 w 1 455 i := by
      rw [e10, up2_rd, up2_rd]
      by_cases hiw : (i : Int) = w
      · rw [if_pos ⟨rfl, hiw⟩, if_pos ⟨rfl, hiw⟩]
      · rw [if_neg (fun h => hiw h.2), if_neg (fun h => hiw h.2), e, upM_na (by omega), ex, up2_na (by omega), up2_na (by omega), up2_na (by omega), k4 455 (by omega)]
    rw [e445, e455, e100, up2_rd, up2_rd]
    by_cases hiw : i = w
    · subst hiw
      rw [if_pos ⟨rfl, rfl⟩, if_pos ⟨rfl, rfl⟩]
      refine ⟨rfl, Or.inr ⟨rfl, hl, s, RepS.fr k1 (fun a a0 a1 => n1 a (by omega) (by omega) (by omega) (by omega) (by omega)), fun y y0 y1 => ?_, hV, h40⟩⟩
      rw [m10, hx, cpI_in (by omega)]
      congr 1
      omega
    · rw [if_neg (fun h => hiw (by omega)), if_neg (fun h => hiw (by omega)), k4 445 (by omega)]
      obtain ⟨g1, g2⟩ := hS i hi
      refine ⟨g1, g2.imp id (fun g3 => ?_)⟩
      obtain ⟨g4, g5, t, r1, r2, r3⟩ := g3
      refine ⟨g4, g5, t, RepS.fr r1 (fun a a0 a1 => nc a (by omega) (by omega) (by omega) (by omega) (by omega) (by omega)), fun y y0 y1 => ?_, r3⟩
      rw [m10, hx, cpI_out (by omega)]
      exact r2 y y0 y1
/-! texts -/
theorem RepT_fr {M M9 : AM} {X : Nat} {t : Tx} (h : RepT M X t) (e : M9 X = M X) (e1 : M9 (X + 1) = M (X + 1)) : RepT M9 X t := by
  obtain ⟨h1, h2, h3⟩ := h
  exact ⟨by rw [e]; exact h1, h2, fun i i0 i1 => by rw [e1]; exact h3 i i0 i1⟩
theorem Inv_text {xs : Nat → Int32} {b : Int} {M M9 : AM} {t : Tx} (hI : Inv xs b M) (e1 : ∀ y : Int, y ≠ 0 → y < 17 → M9 448 y = M 448 y) (e2 : ∀ c : Nat, c ≠ 448 → c ≠ 446 → c ≠ 447 → c ≠ 463 → c ≠ 464 → M9 c = M c) (hT : RepT M9 446 t) (hU : RepU M9 448 t) (hl : t.1 ≤ 320) (hr : ∀ i : Int, 0 ≤ i → i < t.1 → 0 ≤ t.2 i ∧ t.2 i < 128) : Inv xs b M9 := by
  obtain ⟨⟨h1, ⟨bu, by_, h2, h3, h4, h5, h6⟩, h7, h8, h9, h10, -⟩, g1, g2, q, g3, ⟨nx, sz, g4, g5⟩, g6⟩ := hI
  have e100 := e2 100 (by omega) (by omega) (by omega) (by omega) (by omega)
  have e202 := e2 202 (by omega) (by omega) (by omega) (by omega) (by omega)
  have e454 := e2 454 (by omega) (by omega) (by omega) (by omega) (by omega)
  refine ⟨⟨fun c hc => (e2 c (by omega) (by omega) (by omega) (by omega) (by omega)).trans (h1 c hc), ⟨bu, by_, by rw [e100]; exact h2, (e1 13 (by omega) (by omega)).trans h3, h4, fun i i0 i1 => by rw [e2 101 (by omega) (by omega) (by omega) (by omega) (by omega)]; exact h5 i i0 i1, fun i i0 i1 => by rw [e2 (448 + 8) (by omega) (by omega) (by omega) (by omega) (by omega)]; exact h6 i i0 i1⟩, by rw [e100, e1 14 (by omega) (by omega)]; exact h7, by rw [e100, e1 15 (by omega) (by omega)]; exact h8, by rw [e100, e1 16 (by omega) (by omega)]; exact h9, Idle_fr h10 (fun a a0 a1 _ => e2 a (by omega) (by omega) (by omega) (by omega) (by omega)), t, hT, hU, hl, hr⟩, ?_⟩
  refine ⟨by rw [e100, e1 1 (by omega) (by omega)]; exact g1, by rw [e100]; exact g2, q, fun hlo => ?_, ⟨nx, sz, Hst_fr g4 (by rw [e202]) (by rw [e202]) (e1 10 (by omega) (by omega)) (fun a a0 a1 => e2 a (by omega) (by omega) (by omega) (by omega) (by omega)) (fun y _ => by rw [e454]), fun hl0 => g5 (by rw [e100] at hl0; exact hl0)⟩, Slt_fr g6 (e2 _ (by omega) (by omega) (by omega) (by omega) (by omega)) (e2 _ (by omega) (by omega) (by omega) (by omega) (by omega)) (by rw [e100]) (fun a a0 a1 => e2 a (by omega) (by omega) (by omega) (by omega) (by omega)) (fun y _ => by rw [e454])⟩
  obtain ⟨s, k1, k2, k3, k4⟩ := g3 (by rw [e100] at hlo; exact hlo)
  exact ⟨s, RepP.fr k1 (fun a a0 a1 => e2 a (by omega) (by omega) (by omega) (by omega) (by omega)), RepS.fr k2 (fun a a0 a1 => e2 a (by omega) (by omega) (by omega) (by omega) (by omega)), RepO.fr k3 ⟨e1 2 (by omega) (by omega), e1 3 (by omega) (by omega)⟩ (fun a a0 a1 => e2 a (by omega) (by omega) (by omega) (by omega) (by omega)), k4⟩
def Tok (t : Tx) : Prop := 0 ≤ t.1 ∧ ∀ i : Int, 0 ≤ i → i < t.1 → 0 ≤ t.2 i ∧ t.2 i < 128
theorem Tok_say {t : Tx} {c : Int} (h : Tok t) (hc : 0 ≤ c ∧ c < 128) : Tok (say t c) := by
  refine ⟨by have := h.1; show 0 ≤ t.1 + 1; omega, fun i i0 i1 => ?_⟩
  have i1' : i < t.1 + 1 := i1
  show 0 ≤ upI t.2 t.1 c i ∧ upI t.2 t.1 c i < 128
  unfold upI
  by_cases hi : i = t.1
  · rw [if_pos hi]; exact hc
  · rw [if_neg hi]; exact h.2 i i0 (by omega)
theorem Tok_sayN {t : Tx} {v : Int} (h : Tok t) (hv : 0 ≤ v ∧ v ≤ 999) : Tok (sayN t v) := by
  unfold sayN
  split
  · exact Tok_say h (by omega)
  · split
    · exact Tok_say (Tok_say h (by omega)) (by omega)
    · exact Tok_say (Tok_say (Tok_say h (by omega)) (by omega)) (by omega)
theorem Tok_00 : Tok t00 := ⟨by decide, fun i i0 i1 => by have i1' : i < 0 := i1; omega⟩
theorem textR_ok {b : Int} {q s : Int → Int} (hV : Val b q s) (h40 : s 3 ≤ 40) : (textR s).1 ≤ 320 ∧ Tok (textR s) := by
  have y3 := V_3 hV
  have key : ∀ k : Nat, (k : Int) ≤ s 3 → (itv (rodsX s) t00 0 k).1 ≤ 8 * k ∧ Tok (itv (rodsX s) t00 0 k) := by
    intro k
    induction k with
    | zero => exact fun _ => ⟨by show (0 : Int) ≤ 8 * ((0 : Nat) : Int); omega, Tok_00⟩
    | succ k ih =>
      intro hk
      obtain ⟨i1, i2⟩ := ih (by omega)
      rw [itv, Int.zero_add]
      generalize itv (rodsX s) t00 0 k = t at i1 i2 ⊢
      unfold rodsX
      have hd := V_d1 hV (i := (k : Int)) (by omega) (by omega)
      by_cases hs : s (174 + (k : Int)) = 0
      · rw [if_pos hs]
        have h8 := rodX_8 (s := s) (t := t) (r := (k : Int)) i2.1 (by omega)
        refine ⟨by omega, ?_⟩
        unfold rodX
        have hb : Tok (if 0 < t.1 then say t 44 else t) := by
          split
          · exact Tok_say i2 (by omega)
          · exact i2
        have hc := Tok_sayN (Tok_say (Tok_sayN hb (v := (k : Int)) (by omega)) (c := 58) (by omega)) (v := s (94 + (k : Int))) (by omega)
        split
        · exact Tok_say hc (by omega)
        · exact hc
      · rw [if_neg hs]
        exact ⟨by omega, i2⟩
  have h := key (s 3).toNat (by omega)
  unfold textR
  split
  · next hz => exact ⟨by show (itv (rodsX s) t00 0 (s 3).toNat).1 + 1 ≤ 320; omega, Tok_say h.2 (by omega)⟩
  · exact ⟨by omega, h.2⟩
theorem textO_ok {b : Int} {q s : Int → Int} {o : Int} (hV : Val b q s) (ho : 0 ≤ o ∧ o < s 4) : (textO s o).1 ≤ 320 ∧ Tok (textO s o) := by
  have h0 := V_o0 hV ho.1 ho.2
  have h1 := V_o1 hV ho.1 ho.2
  have h3 := V_o3 hV ho.1 ho.2
  have h4 := V_o4 hV ho.1 ho.2
  have h5 := V_o5 hV ho.1 ho.2
  have h6 := V_o6 hV ho.1 ho.2
  have hk : Tok (ordX s o) := by
    unfold ordX
    exact Tok_sayN (Tok_say (Tok_say (Tok_sayN (Tok_say (Tok_sayN (Tok_say (Tok_sayN (Tok_say (Tok_sayN (Tok_say (Tok_sayN Tok_00 (by omega)) (by omega)) (by omega)) (by omega)) (by omega)) (by omega)) (by omega)) (by omega)) (by omega)) (by omega)) (by omega)) (by omega)
  have hn : (ordX s o).1 ≤ 40 := by
    unfold ordX
    have sy : ∀ (t : Tx) (c : Int), (say t c).1 = t.1 + 1 := fun t c => rfl
    have z : t00.1 = 0 := rfl
    have a1 := (sayN_1 (t := t00) (v := s (414 + (8 * o)))).2
    have a2 := (sayN_1 (t := say (sayN t00 (s (414 + (8 * o)))) 120) (v := s ((414 + (8 * o)) + 1))).2
    rw [sy] at a2
    refine Int.le_trans sayN_1.2 ?_
    rw [sy, sy]
    refine Int.le_trans (Int.add_le_add_right (Int.add_le_add_right (Int.add_le_add_right sayN_1.2 1) 1) 3) ?_
    rw [sy]
    refine Int.le_trans (Int.add_le_add_right (Int.add_le_add_right (Int.add_le_add_right (Int.add_le_add_right (Int.add_le_add_right sayN_1.2 1) 3) 1) 1) 3) ?_
    rw [sy]
    refine Int.le_trans (Int.add_le_add_right (Int.add_le_add_right (Int.add_le_add_right (Int.add_le_add_right (Int.add_le_add_right (Int.add_le_add_right (Int.add_le_add_right sayN_1.2 1) 3) 1) 3) 1) 1) 3) ?_
    rw [sy]
    omega
  unfold textO
  split
  · refine ⟨by rw [goneX_1]; omega, ?_⟩
    unfold goneX
    exact Tok_say (Tok_say (Tok_say (Tok_say (Tok_say hk (by omega)) (by omega)) (by omega)) (by omega)) (by omega)
  · exact ⟨by omega, hk⟩
