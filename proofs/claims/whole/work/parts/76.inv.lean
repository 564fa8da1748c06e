/-! THE LAW'S INVARIANT: what the two sides' memories hold between two calls -/
theorem Val_congr {b : Int} {q s s' : Int → Int} (h : Val b q s) (e : ∀ k : Int, 0 ≤ k → k < 983 → s k = s' k) : Val b q s' := by
  have l3 := V_3 h
  have l4 := V_4 h
  unfold Val at h ⊢
  obtain ⟨h1, h2, h3, h4, h5, h6, h7, h8, h9, h10, h11⟩ := h
  rw [← e 0 (by omega) (by omega), ← e 1 (by omega) (by omega), ← e 2 (by omega) (by omega), ← e 3 (by omega) (by omega), ← e 4 (by omega) (by omega), ← e 5 (by omega) (by omega)]
  refine ⟨h1, h2, h3, h4, h5, h6, h7, fun i i0 i1 => ?_, fun o o0 o1 => ?_, fun l g0 g1 => by rw [← e _ (by omega) (by omega)]; exact h10 l g0 g1, h11⟩
  · have := h8 i i0 i1
    unfold RodV at this ⊢
    rw [← e (14 + i) (by omega) (by omega), ← e (94 + i) (by omega) (by omega), ← e (174 + i) (by omega) (by omega), ← e (334 + i) (by omega) (by omega)]
    exact this
  · have := h9 o o0 o1
    unfold OrdV at this ⊢
    rw [← e (414 + 8 * o) (by omega) (by omega), ← e (414 + 8 * o + 1) (by omega) (by omega), ← e (414 + 8 * o + 2) (by omega) (by omega), ← e (414 + 8 * o + 3) (by omega) (by omega), ← e (414 + 8 * o + 4) (by omega) (by omega), ← e (414 + 8 * o + 5) (by omega) (by omega), ← e (414 + 8 * o + 6) (by omega) (by omega), ← e (414 + 8 * o + 7) (by omega) (by omega)]
    exact this
/-- two rows of one memory are as good as each other in another -/
theorem RepS_two {M M2 : AM} {A B : Nat} {s s' : Int → Int} (h : RepS M A s) (h' : RepS M A s') (h2 : RepS M2 B s) : RepS M2 B s' := by
  obtain ⟨a0, a3, a4, a5, a1, a6, a17, ar, ao, al⟩ := h
  obtain ⟨b0, b3, b4, b5, b1, b6, b17, br, bo, bl⟩ := h'
  obtain ⟨c0, c3, c4, c5, c1, c6, c17, cr, co, cl⟩ := h2
  have e3 : s 3 = s' 3 := a3.symm.trans b3
  have e4 : s 4 = s' 4 := a4.symm.trans b4
  have e5 : s 5 = s' 5 := a5.symm.trans b5
  exact ⟨c0.trans (a0.symm.trans b0), c3.trans e3, c4.trans e4, c5.trans e5, fun i i0 i1 => (c1 i i0 i1).trans ((a1 i i0 i1).symm.trans (b1 i i0 i1)), fun i i0 i1 => (c6 i i0 i1).trans ((a6 i i0 i1).symm.trans (b6 i i0 i1)), fun i i0 i1 => (c17 i i0 i1).trans ((a17 i i0 i1).symm.trans (b17 i i0 i1)),
    fun w hw i i0 i1 => (cr w hw i i0 (e3 ▸ i1)).trans ((ar w hw i i0 (e3 ▸ i1)).symm.trans (br w hw i i0 i1)), fun w hw i i0 i1 => (co w hw i i0 (e4 ▸ i1)).trans ((ao w hw i i0 (e4 ▸ i1)).symm.trans (bo w hw i i0 i1)), fun w hw i i0 i1 => (cl w hw i i0 (e5 ▸ i1)).trans ((al w hw i i0 (e5 ▸ i1)).symm.trans (bl w hw i i0 i1))⟩
theorem RepP_two {M M2 : AM} {A B : Nat} {q q' : Int → Int} (hQ : ValQ q) (h : RepP M A q) (h' : RepP M A q') (h2 : RepP M2 B q) : RepP M2 B q' := by
  obtain ⟨a0, a1, a2, a3, a4, a5⟩ := h
  obtain ⟨b0, b1, b2, b3, b4, b5⟩ := h'
  obtain ⟨c0, c1, c2, c3, c4, c5⟩ := h2
  have e0 : q 0 = q' 0 := a0.symm.trans b0
  have e1 : q 1 = q' 1 := a1.symm.trans b1
  have e10 : ∀ i : Int, 0 ≤ i → i < q' 1 → q (10 + i) = q' (10 + i) := fun i i0 i1 => (a4 i i0 (e1 ▸ i1)).symm.trans (b4 i i0 i1)
  exact ⟨c0.trans e0, c1.trans e1, fun i i0 i1 => (c2 i i0 (e0 ▸ i1)).trans ((a2 i i0 (e0 ▸ i1)).symm.trans (b2 i i0 i1)), fun i i0 i1 => (c3 i i0 (e0 ▸ i1)).trans ((a3 i i0 (e0 ▸ i1)).symm.trans (b3 i i0 i1)), fun i i0 i1 => (c4 i i0 (e1 ▸ i1)).trans (e10 i i0 i1),
    fun w hw hw2 i i0 i1 => (c5 w hw (e1 ▸ hw2) i i0 (by rw [e10 w (by omega) hw2]; exact i1)).trans ((a5 w hw (e1 ▸ hw2) i i0 (by rw [e10 w (by omega) hw2]; exact i1)).symm.trans (b5 w hw hw2 i i0 i1))⟩
def KeptAt (M : AM) (k : Int) (s : Int → Int) : Prop := ∀ y : Int, 0 ≤ y → y < 983 → M 454 (983 * k + y) = s y
theorem KeptAt_fr {M M9 : AM} {k : Int} {s : Int → Int} (h : KeptAt M k s) (hk : 1 ≤ k) (e : ∀ y : Int, 983 ≤ y → M9 454 y = M 454 y) : KeptAt M9 k s := fun y y0 y1 => (e _ (by omega)).trans (h y y0 y1)
def InvA (xs : Nat → Int32) (M : AM) : Prop := (∀ c : Nat, c < 100 → M c = am_M0 xs c) ∧ (∃ (bu : Int) (by_ : Int → Int), M 100 1 = bu ∧ M 448 13 = bu ∧ (0 ≤ bu ∧ bu ≤ 700) ∧ InZ M 101 by_ ∧ InU M 448 by_) ∧ (M 448 14 = M 100 3 ∧ 0 ≤ M 100 3 ∧ M 100 3 ≤ 4) ∧ (M 448 15 = M 100 4 ∧ -1 ≤ M 100 4 ∧ M 100 4 ≤ 700) ∧ (M 448 16 = M 100 5 ∧ -1 ≤ M 100 5 ∧ M 100 5 ≤ 700) ∧ Idle M 114 ∧ ∃ t : Tx, RepT M 446 t ∧ RepU M 448 t ∧ t.1 ≤ 320 ∧ ∀ i : Int, 0 ≤ i → i < t.1 → 0 ≤ t.2 i ∧ t.2 i < 128
def Hst (b : Int) (M : AM) (q : Int → Int) (nx sz : Int) : Prop := (M 202 1 = nx ∧ 0 ≤ nx ∧ nx < 8) ∧ (M 202 2 = sz ∧ 0 ≤ sz ∧ sz ≤ 8) ∧ M 448 10 = sz ∧ ∀ j : Int, 0 ≤ j → j < sz → ∃ s : Int → Int, RepS M (204 + 24 * ((nx - sz + j) % 8).toNat) s ∧ KeptAt M (1 + j) s ∧ Val b q s ∧ s 3 ≤ 40
def Slt (b : Int) (M : AM) (q : Int → Int) : Prop := ∀ i : Nat, i < 2 → M 455 i = M 445 i ∧ (M 445 i = 0 ∨ (M 445 i = 1 ∧ M 100 6 = 1 ∧ ∃ s : Int → Int, RepS M (397 + 24 * i) s ∧ KeptAt M (9 + i) s ∧ Val b q s ∧ s 3 ≤ 40))
def Core (b : Int) (M : AM) (q s : Int → Int) : Prop := RepP M 138 q ∧ RepS M 149 s ∧ RepO M 448 q s ∧ Val b q s ∧ ValQ q ∧ s 3 ≤ 40
def InvB (b : Int) (M : AM) : Prop := M 448 1 = M 100 6 ∧ (M 100 6 = 0 ∨ M 100 6 = 1) ∧ ∃ q : Int → Int, (M 100 6 = 1 → ∃ s, Core b M q s) ∧ (∃ nx sz, Hst b M q nx sz ∧ (M 100 6 = 0 → sz = 0)) ∧ Slt b M q
/-- questions: nothing that counts has changed -/
def SameA (M M9 : AM) : Prop := (∀ y : Int, y ≠ 0 → y ≠ 10 → (y < 17 ∨ y = 35) → M9 448 y = M 448 y) ∧ ∀ c : Nat, (c < 138 ∨ c = 446 ∨ c = 447 ∨ c = 456 ∨ c = 463) → M9 c = M c
def Same (M M9 : AM) : Prop := (∀ y : Int, y ≠ 0 → (y < 17 ∨ y = 35) → M9 448 y = M 448 y) ∧ (∀ y : Int, 983 ≤ y → M9 454 y = M 454 y) ∧ ∀ c : Nat, c ≠ 448 → c ≠ 454 → c ≠ 462 → c ≠ 464 → c ≠ 465 → c ≠ 200 → c ≠ 201 → (c < 175 ∨ 199 ≤ c) → M9 c = M c
theorem InvA_same {xs : Nat → Int32} {M M9 : AM} (h : InvA xs M) (e : SameA M M9) : InvA xs M9 := by
  obtain ⟨h1, ⟨bu, by_, h2, h3, h4, h5, h6⟩, h7, h8, h9, h10, t, h11, h12, h13, h14⟩ := h
  obtain ⟨eo, ec⟩ := e
  have e100 := ec 100 (by omega)
  refine ⟨fun c hc => (ec c (by omega)).trans (h1 c hc), ⟨bu, by_, by rw [e100]; exact h2, (eo 13 (by omega) (by omega) (by omega)).trans h3, h4, fun i i0 i1 => by rw [ec 101 (by omega)]; exact h5 i i0 i1, fun i i0 i1 => by rw [ec 456 (by omega)]; exact h6 i i0 i1⟩, by rw [e100, eo 14 (by omega) (by omega) (by omega)]; exact h7, by rw [e100, eo 15 (by omega) (by omega) (by omega)]; exact h8, by rw [e100, eo 16 (by omega) (by omega) (by omega)]; exact h9, Idle_fr h10 (fun a a0 a1 _ => ec a (by omega)), t, ?_, ?_, h13, h14⟩
  · obtain ⟨r1, r2, r3⟩ := h11
    exact ⟨by rw [ec 446 (by omega)]; exact r1, r2, fun i i0 i1 => by rw [ec 447 (by omega)]; exact r3 i i0 i1⟩
  · obtain ⟨r1, r2, r3⟩ := h12
    exact ⟨by rw [eo 35 (by omega) (by omega) (by omega)]; exact r1, r2, fun i i0 i1 => by rw [ec 463 (by omega)]; exact r3 i i0 i1⟩
theorem Same.toA {M M9 : AM} (e : Same M M9) : SameA M M9 := ⟨fun y h1 _ h3 => e.1 y h1 h3, fun c hc => e.2.2 c (by omega) (by omega) (by omega) (by omega) (by omega) (by omega) (by omega) (by omega)⟩
theorem Hst_fr {b : Int} {M M9 : AM} {q : Int → Int} {nx sz : Int} (h : Hst b M q nx sz) (e1 : M9 202 1 = M 202 1) (e2 : M9 202 2 = M 202 2) (e3 : M9 448 10 = M 448 10) (e4 : ∀ a : Nat, 204 ≤ a → a < 396 → M9 a = M a) (e5 : ∀ y : Int, 983 ≤ y → M9 454 y = M 454 y) : Hst b M9 q nx sz := by
  obtain ⟨h1, h2, h3, h4⟩ := h
  refine ⟨by rw [e1]; exact h1, by rw [e2]; exact h2, by rw [e3]; exact h3, fun j j0 j1 => ?_⟩
  obtain ⟨s, r1, r2, r3⟩ := h4 j j0 j1
  exact ⟨s, RepS.fr r1 (fun a a0 a1 => e4 a (by omega) (by omega)), KeptAt_fr r2 (by omega) e5, r3⟩
theorem Hst_mono {b b' : Int} {M : AM} {q : Int → Int} {nx sz : Int} (h : Hst b M q nx sz) (hb : b ≤ b' ∧ b' ≤ 1000000) : Hst b' M q nx sz := by
  obtain ⟨h1, h2, h3, h4⟩ := h
  refine ⟨h1, h2, h3, fun j j0 j1 => ?_⟩
  obtain ⟨s, r1, r2, r3, r4⟩ := h4 j j0 j1
  exact ⟨s, r1, r2, V_mono r3 hb, r4⟩
theorem Slt_fr {b : Int} {M M9 : AM} {q : Int → Int} (h : Slt b M q) (e1 : M9 455 = M 455) (e2 : M9 445 = M 445) (e3 : M9 100 6 = M 100 6) (e4 : ∀ a : Nat, 397 ≤ a → a < 445 → M9 a = M a) (e5 : ∀ y : Int, 983 ≤ y → M9 454 y = M 454 y) : Slt b M9 q := by
  intro i hi
  rw [e1, e2, e3]
  obtain ⟨h1, h2⟩ := h i hi
  refine ⟨h1, h2.imp id (fun h3 => ?_)⟩
  obtain ⟨g1, g2, s, r1, r2, r3⟩ := h3
  exact ⟨g1, g2, s, RepS.fr r1 (fun a a0 a1 => e4 a (by omega) (by omega)), KeptAt_fr r2 (by omega) e5, r3⟩
theorem Slt_mono {b b' : Int} {M : AM} {q : Int → Int} (h : Slt b M q) (hb : b ≤ b' ∧ b' ≤ 1000000) : Slt b' M q := by
  intro i hi
  obtain ⟨h1, h2⟩ := h i hi
  refine ⟨h1, h2.imp id (fun h3 => ?_)⟩
  obtain ⟨g1, g2, s, r1, r2, r3, r4⟩ := h3
  exact ⟨g1, g2, s, r1, r2, V_mono r3 hb, r4⟩
theorem Core_same {b : Int} {M M9 : AM} {q s : Int → Int} (h : Core b M q s) (e : Same M M9) : Core b M9 q s := by
  obtain ⟨h1, h2, h3, h4⟩ := h
  obtain ⟨eo, -, ec⟩ := e
  exact ⟨RepP.fr h1 (fun a a0 a1 => ec a (by omega) (by omega) (by omega) (by omega) (by omega) (by omega) (by omega) (by omega)), RepS.fr h2 (fun a a0 a1 => ec a (by omega) (by omega) (by omega) (by omega) (by omega) (by omega) (by omega) (by omega)), RepO.fr h3 ⟨eo 2 (by omega) (by omega), eo 3 (by omega) (by omega)⟩ (fun a a0 a1 => ec a (by omega) (by omega) (by omega) (by omega) (by omega) (by omega) (by omega) (by omega)), h4⟩
theorem InvB_same {b : Int} {M M9 : AM} (h : InvB b M) (e : Same M M9) : InvB b M9 := by
  obtain ⟨h1, h2, q, h3, ⟨nx, sz, h4, h5⟩, h6⟩ := h
  have ec : ∀ c : Nat, c ≠ 448 → c ≠ 454 → c ≠ 462 → c ≠ 464 → c ≠ 465 → c ≠ 200 → c ≠ 201 → (c < 175 ∨ 199 ≤ c) → M9 c = M c := e.2.2
  have eo := e.1
  have e100 : M9 100 = M 100 := ec 100 (by omega) (by omega) (by omega) (by omega) (by omega) (by omega) (by omega) (by omega)
  have e202 : M9 202 = M 202 := ec 202 (by omega) (by omega) (by omega) (by omega) (by omega) (by omega) (by omega) (by omega)
  refine ⟨by rw [e100, eo 1 (by omega) (by omega)]; exact h1, by rw [e100]; exact h2, q, fun hl => ?_, ⟨nx, sz, Hst_fr h4 (by rw [e202]) (by rw [e202]) (eo 10 (by omega) (by omega)) (fun a a0 a1 => ec a (by omega) (by omega) (by omega) (by omega) (by omega) (by omega) (by omega) (by omega)) e.2.1, fun hl => h5 (by rw [e100] at hl; exact hl)⟩, Slt_fr h6 (ec _ (by omega) (by omega) (by omega) (by omega) (by omega) (by omega) (by omega) (by omega)) (ec _ (by omega) (by omega) (by omega) (by omega) (by omega) (by omega) (by omega) (by omega)) (by rw [e100]) (fun a a0 a1 => ec a (by omega) (by omega) (by omega) (by omega) (by omega) (by omega) (by omega) (by omega)) e.2.1⟩
  obtain ⟨s, hs⟩ := h3 (by rw [e100] at hl; exact hl)
  exact ⟨s, Core_same hs e⟩
theorem Core_mono {b b' : Int} {M : AM} {q s : Int → Int} (h : Core b M q s) (hb : b ≤ b' ∧ b' ≤ 1000000) : Core b' M q s := ⟨h.1, h.2.1, h.2.2.1, V_mono h.2.2.2.1 hb, h.2.2.2.2⟩
theorem InvB_mono {b b' : Int} {M : AM} (h : InvB b M) (hb : b ≤ b' ∧ b' ≤ 1000000) : InvB b' M := by
  obtain ⟨h1, h2, q, h3, ⟨nx, sz, h4, h5⟩, h6⟩ := h
  exact ⟨h1, h2, q, fun hl => (h3 hl).imp (fun s hs => Core_mono hs hb), ⟨nx, sz, Hst_mono h4 hb, h5⟩, Slt_mono h6 hb⟩
def Inv (xs : Nat → Int32) (b : Int) (M : AM) : Prop := InvA xs M ∧ InvB b M
theorem Inv_same {xs : Nat → Int32} {b : Int} {M M9 : AM} (h : Inv xs b M) (e : Same M M9) : Inv xs b M9 := ⟨InvA_same h.1 e.toA, InvB_same h.2 e⟩
theorem Inv_mono {xs : Nat → Int32} {b b' : Int} {M : AM} (h : Inv xs b M) (hb : b ≤ b' ∧ b' ≤ 1000000) : Inv xs b' M := ⟨h.1, InvB_mono h.2 hb⟩
/-! steps of Same -/
theorem Same.rfl {M : AM} : Same M M := ⟨fun _ _ _ => Eq.refl _, fun _ _ => Eq.refl _, fun _ _ _ _ _ _ _ _ _ => Eq.refl _⟩
theorem Same.trans {M M1 M2 : AM} (h : Same M M1) (h' : Same M1 M2) : Same M M2 := ⟨fun y a b => (h'.1 y a b).trans (h.1 y a b), fun y a => (h'.2.1 y a).trans (h.2.1 y a), fun c a1 a2 a3 a4 a5 a6 a7 a8 => (h'.2.2 c a1 a2 a3 a4 a5 a6 a7 a8).trans (h.2.2 c a1 a2 a3 a4 a5 a6 a7 a8)⟩
theorem Same.thr {M M1 : AM} {v : Int} (h : Same M M1) : Same M (up2 M1 448 0 v) := h.trans ⟨fun y hy _ => by rw [up2_rd, if_neg (by omega)], fun y _ => by rw [up2_na (by omega)], fun c h1 _ _ _ _ _ _ _ => by rw [up2_na h1]⟩
theorem Same.out {M M1 : AM} {v : Int} (h : Same M M1) : Same M (up2 M1 464 0 v) := h.trans ⟨fun y hy _ => by rw [up2_na (by omega)], fun y _ => by rw [up2_na (by omega)], fun c _ _ _ h1 _ _ _ _ => by rw [up2_na h1]⟩
theorem Same.outd {M M1 : AM} {v : Int} (h : Same M M1) : Same M (up2 M1 465 0 v) := h.trans ⟨fun y hy _ => by rw [up2_na (by omega)], fun y _ => by rw [up2_na (by omega)], fun c _ _ _ _ h1 _ _ _ => by rw [up2_na h1]⟩
theorem Same.eq {M M1 M2 : AM} (h : Same M M1) (e : M2 = M1) : Same M M2 := by rw [e]; exact h
theorem Same.wr {M M1 M2 : AM} (h : Same M M1) (e : Wr 175 24 M1 M2) : Same M M2 := h.trans ⟨fun y hy _ => by rw [e _ (by omega)], fun y _ => by rw [e _ (by omega)], fun c _ _ _ _ _ _ _ h1 => by rw [e _ (by omega)]⟩
theorem Same.wi {M M1 M2 : AM} (h : Same M M1) (e : WI M1 M2 448) : Same M M2 := by
  obtain ⟨st, e1, e2⟩ := e
  refine h.trans ⟨fun y hy _ => by rw [e1, upM_na (by omega)], fun y hy => by rw [e1, upM_at]; exact e2 y hy, fun c _ h1 _ _ _ _ _ _ => by rw [e1, upM_na h1]⟩
theorem Same.pk {M M1 M2 : AM} (h : Same M M1) (e : ∀ c : Nat, c ≠ 200 ∧ c ≠ 200 + 1 → M2 c = M1 c) : Same M M2 := h.trans ⟨fun y hy _ => by rw [e _ (by omega)], fun y _ => by rw [e _ (by omega)], fun c _ _ _ _ _ h1 h2 _ => by rw [e _ (by omega)]⟩
theorem Same.pr {M M1 M2 : AM} (h : Same M M1) (e : ∀ c : Nat, c ≠ 448 ∧ c ≠ 448 + 14 → M2 c = M1 c) (e2 : ∀ y : Int, y ≠ 32 ∧ y ≠ 33 → M2 448 y = M1 448 y) : Same M M2 := h.trans ⟨fun y hy _ => e2 y (by omega), fun y _ => by rw [e _ (by omega)], fun c h1 _ h2 _ _ _ _ _ => by rw [e _ (by omega)]⟩
