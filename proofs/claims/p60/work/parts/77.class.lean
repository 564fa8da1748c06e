/-! THE CLASS'S OBJECT AT O: its shapes, its numbers -/
abbrev CG (g : AG) (O : Nat) : Prop := ShYard g O (O + 38) (O + 49) (O + 73) (O + 74) (O + 100) (O + 102) (O + 346) ∧ ShPlan g (O + 38) ∧ ShState g (O + 49) ∧ ShWorks g (O + 73) (O + 38) (O + 49) ∧ ShHist g (O + 102) ∧ (∀ j : Nat, j < 8 → ShState g (O + 104 + 24 * j)) ∧ ShText g (O + 346)
theorem CG.y {g : AG} {O : Nat} (h : CG g O) : ShYard g O (O + 38) (O + 49) (O + 73) (O + 74) (O + 100) (O + 102) (O + 346) := h.1
theorem CG.p {g : AG} {O : Nat} (h : CG g O) : ShPlan g (O + 38) := h.2.1
theorem CG.s {g : AG} {O : Nat} (h : CG g O) : ShState g (O + 49) := h.2.2.1
theorem CG.w {g : AG} {O : Nat} (h : CG g O) : ShWorks g (O + 73) (O + 38) (O + 49) := h.2.2.2.1
theorem CG.h {g : AG} {O : Nat} (h : CG g O) : ShHist g (O + 102) := h.2.2.2.2.1
theorem CG.i {g : AG} {O : Nat} (h : CG g O) : ∀ j : Nat, j < 8 → ShState g (O + 104 + 24 * j) := h.2.2.2.2.2.1
theorem CG.x {g : AG} {O : Nat} (h : CG g O) : ShText g (O + 346) := h.2.2.2.2.2.2
theorem ShYard_fx {g g' : AG} {Y P B W T A H X : Nat} (h : ShYard g Y P B W T A H X) (e : ∀ c : Nat, Y ≤ c → c < Y + 348 → SG g g' c) : ShYard g' Y P B W T A H X := by
  unfold ShYard at h ⊢
  rw [(e Y (by omega) (by omega)).1, (e Y (by omega) (by omega)).2.2, (e (Y + 1) (by omega) (by omega)).1, (e (Y + 1) (by omega) (by omega)).2.1, (e (Y + 296) (by omega) (by omega)).1, (e (Y + 296) (by omega) (by omega)).2.1, (e (Y + 296) (by omega) (by omega)).2.2, (e (Y + 345) (by omega) (by omega)).1, (e (Y + 345) (by omega) (by omega)).2.1]
  exact h
theorem CG.fx {g g' : AG} {O : Nat} (h : CG g O) (e : ∀ c : Nat, O ≤ c → c < O + 348 → SG g g' c) : CG g' O := ⟨ShYard_fx h.y e, ShPlan_fx h.p (fun c _ _ => e c (by omega) (by omega)), ShState_fx h.s (fun c _ _ => e c (by omega) (by omega)), ShWorks_fx h.w (fun c _ _ => e c (by omega) (by omega)), ShHist_fx h.h (fun c _ _ => e c (by omega) (by omega)), fun j hj => ShState_fx (h.i j hj) (fun c _ _ => e c (by omega) (by omega)), ShText_fx h.x (fun c _ _ => e c (by omega) (by omega))⟩
abbrev CM (M : AM) (O : Nat) (b : Int) (q s : Int → Int) : Prop := RepP M (O + 38) q ∧ RepS M (O + 49) s ∧ Val b q s ∧ M O 6 = 1 ∧ (0 ≤ M (O + 102) 1 ∧ M (O + 102) 1 < 8) ∧ (0 ≤ M (O + 102) 2 ∧ M (O + 102) 2 ≤ 8)
theorem CM.p {M : AM} {O : Nat} {b : Int} {q s : Int → Int} (h : CM M O b q s) : RepP M (O + 38) q := h.1
theorem CM.s {M : AM} {O : Nat} {b : Int} {q s : Int → Int} (h : CM M O b q s) : RepS M (O + 49) s := h.2.1
theorem CM.v {M : AM} {O : Nat} {b : Int} {q s : Int → Int} (h : CM M O b q s) : Val b q s := h.2.2.1
theorem CM.l {M : AM} {O : Nat} {b : Int} {q s : Int → Int} (h : CM M O b q s) : M O 6 = 1 := h.2.2.2.1
theorem CM.n {M : AM} {O : Nat} {b : Int} {q s : Int → Int} (h : CM M O b q s) : 0 ≤ M (O + 102) 1 ∧ M (O + 102) 1 < 8 := h.2.2.2.2.1
theorem CM.z {M : AM} {O : Nat} {b : Int} {q s : Int → Int} (h : CM M O b q s) : 0 ≤ M (O + 102) 2 ∧ M (O + 102) 2 ≤ 8 := h.2.2.2.2.2
theorem CM.fr {M M' : AM} {O : Nat} {b : Int} {q s : Int → Int} (h : CM M O b q s) (e : ∀ c : Nat, (O ≤ c ∧ c < O + 73) ∨ c = O + 102 → M' c = M c) : CM M' O b q s := by
  refine ⟨RepP.fr h.p (fun a _ _ => e a (by omega)), RepS.fr h.s (fun a _ _ => e a (by omega)), h.v, ?_, ?_, ?_⟩
  · rw [e O (by omega)]; exact h.l
  · rw [e (O + 102) (by omega)]; exact h.n
  · rw [e (O + 102) (by omega)]; exact h.z
/-- the object with its numbers, all of it made -/
abbrev CW (g : AG) (M : AM) (O : Nat) (b : Int) (q s : Int → Int) : Prop := CG g O ∧ CM M O b q s ∧ O + 348 ≤ 100 + gN g
theorem CW.fr {F : Nat → Prop} {nc ns O : Nat} {g g1 : AG} {M M1 : AM} {b : Int} {q s : Int → Int} (h : CW g M O b q s) (e : Fr F nc ns g M g1 M1) (hF : ∀ c : Nat, O ≤ c → c < O + 348 → ¬ F c) : CW g1 M1 O b q s := by
  obtain ⟨h1, h2, h3⟩ := h
  exact ⟨h1.fx (fun c c0 c1 => e.sg (by omega) (hF c c0 c1)), h2.fr (fun c hc => e.m (by omega) (hF c (by omega) (by omega))), by have := e.n; omega⟩
theorem CW.fy {nc ns O : Nat} {g g1 : AG} {M M1 : AM} {b : Int} {q s : Int → Int} (h : CW g M O b q s) (e : Fr (FY O) nc ns g M g1 M1) : CW g1 M1 O b q s := h.fr e (fun c c0 c1 hf => hf (Or.inr (Or.inr ⟨c0, c1⟩)))
theorem CW.f0 {nc ns O : Nat} {g g1 : AG} {M M1 : AM} {b : Int} {q s : Int → Int} (h : CW g M O b q s) (e : Fr FN nc ns g M g1 M1) : CW g1 M1 O b q s := h.fr e (fun c _ _ hf => hf)
/-- a change is kept first -/
theorem ck64 {g : AG} {M : AM} {O : Nat} {b : Int} {q s : Int → Int} (hG : CG g O) (hM : CM M O b q s) : Ok 1 64 0 [aR (O + 102), aR (O + 49)] [] g M (Rt none g (fun M9 => CM M9 O b q s ∧ Wr O 348 M M9)) := (t64 hG.h hG.i hG.s hM.s hM.v (V_q hM.v) rfl hM.n rfl hM.z).mono (fun o g1 M1 p => by
  obtain ⟨p1, p2, p3, p4, p5⟩ := p
  refine ⟨p1, p2, ⟨RepP.fr hM.p (fun a _ _ => p5 a (by omega) (by omega)), RepS.fr hM.s (fun a _ _ => p5 a (by omega) (by omega)), hM.v, ?_, p3, p4⟩, fun c hc => p5 c (by omega) (by omega)⟩
  rw [p5 O (by omega) (by omega)]
  exact hM.l)
/-- the works write the state alone -/
theorem CM.wk {M M' : AM} {O : Nat} {b b' : Int} {q s t : Int → Int} (h : CM M O b q s) (hR : RepS M' (O + 49) t) (hV : Val b' q t) (hW : Wr (O + 49) 24 M M') : CM M' O b' q t ∧ Wr O 348 M M' := by
  refine ⟨⟨RepP.fr h.p (fun a _ _ => hW a (by omega)), hR, hV, ?_, ?_, ?_⟩, hW.wide (by omega) (by omega)⟩
  · rw [hW O (by omega)]; exact h.l
  · rw [hW (O + 102) (by omega)]; exact h.n
  · rw [hW (O + 102) (by omega)]; exact h.z
