/-! TELL (by program, wip/p60/gen) -/
theorem o209 : am_oc 209 = 13 := by decide +kernel
theorem m13_23 : am_mlk 13 23 1 210 = true := by decide +kernel
theorem na210 : am_na 210 = 2 := by decide +kernel
theorem nl210 : am_nL 210 = 5 := by decide +kernel
theorem pd210 : ∀ a0 a1 : AV, am_pad 210 [a0, a1] = [a0, a1, aU, aU, aU] := by intros; unfold am_pad; rw [nl210]; rfl
theorem ln210 : 2 ≤ am_nL 210 := by rw [nl210]; decide
theorem m13_29 : am_mlk 13 29 0 96 = true := by decide +kernel
theorem na96 : am_na 96 = 1 := by decide +kernel
theorem nl96 : am_nL 96 = 2 := by decide +kernel
theorem pd96 : ∀ a0 a1 : AV, am_pad 96 [a0, a1] = [a0, a1] := by intros; unfold am_pad; rw [nl96]; rfl
theorem ln96 : 2 ≤ am_nL 96 := by rw [nl96]; decide
theorem rt209 : am_rt 209 = some .int := by decide +kernel
/-- the object before a text is loaded -/
def CF (g : AG) (M : AM) (O : Nat) : Prop := CG g O ∧ ShParser g (O + 2) (O + 1) (O + 3) (O + 14) ∧ ShPlan g (O + 3) ∧ ShState g (O + 14) ∧ M O 1 = 0 ∧ M O 6 = 0 ∧ Idle M (O + 14) ∧ (M (O + 102) 1 = 0 ∧ M (O + 102) 2 = 0) ∧ (∀ i : Int, M (O + 1) i = 0) ∧ M (O + 346) 1 = 0 ∧ O + 348 ≤ 100 + gN g
theorem CF.f0 {nc ns O : Nat} {g g1 : AG} {M M1 : AM} (h : CF g M O) (e : Fr FN nc ns g M g1 M1) : CF g1 M1 O := by
  obtain ⟨h1, h2, h3, h4, h5, h6, h7, h8, h9, h10, h11⟩ := h
  have hn := e.n
  have m : ∀ c : Nat, c < O + 348 → M1 c = M c := fun c hc => e.m0 (by omega)
  have sg : ∀ c : Nat, c < O + 348 → SG g g1 c := fun c hc => e.sg (by omega) (fun e => e)
  exact ⟨h1.fx (fun c c0 c1 => sg c c1), by unfold ShParser at h2 ⊢; rw [(sg (O + 2) (by omega)).1, (sg (O + 2) (by omega)).2.2]; exact h2, ShPlan_fx h3 (fun c c0 c1 => sg c (by omega)), ShState_fx h4 (fun c c0 c1 => sg c (by omega)), by rw [m O (by omega)]; exact h5, by rw [m O (by omega)]; exact h6, Idle_fr h7 (fun a a0 a1 a2 => m a (by omega)), by rw [m (O + 102) (by omega)]; exact h8, fun i => by rw [m (O + 1) (by omega)]; exact h9 i, by rw [m (O + 346) (by omega)]; exact h10, by omega⟩
theorem BS.wd {g : AG} {M : AM} (h : BS g M) : Wds g M 10 12 14 16 18 20 22 := by
  have r : ∀ k : Nat, k < 7 → ∀ i : Nat, i < stn k → 0 ≤ tw k (i : Int) ∧ tw k (i : Int) < 128 ∧ stx k (i : Int) = tw k (i : Int) := by decide +kernel
  have l : ∀ k : Nat, k < 7 → stn k ≤ 8 := by decide +kernel
  have w : ∀ k : Nat, k < 7 → Wd g M (10 + 2 * k) (stn k) (tw k) := fun k hk => by
    have hs := h.str (j := k) (by omega)
    refine ⟨hs.1, l k hk, fun i i0 i1 => ?_⟩
    have h1 := r k hk i.toNat (by omega)
    rw [Int.toNat_of_nonneg i0] at h1
    exact ⟨(hs.2 i i0 i1).trans h1.2.2, h1.1, h1.2.1⟩
  exact ⟨w 0 (by decide), w 1 (by decide), w 2 (by decide), w 3 (by decide), w 4 (by decide), w 5 (by decide), w 6 (by decide)⟩
/-- the text is told -/
theorem t209 {g : AG} {M : AM} {O S W : Nat} {t : Tx} {q s : Int → Int} (h111 : 111 ≤ O) (hC : CF g M O) (hBS : BS g M) (hS : S19 g M S W t) (hSO : O + 348 ≤ S ∧ O + 348 ≤ W) (hPI : PI t q s) (ht : t.1 ≤ 660) : Ok 12 209 0 [aR O, aR S] [] g M (fun o g1 M1 => o = .inl (some (aI (s 3))) ∧ CW g1 M1 O 0 q s ∧ M1 O 3 = 0 ∧ M1 O 4 = -1 ∧ M1 O 5 = -1 ∧ Fr (FC O) 34 170 g M g1 M1) := by
  have hz := hS.2.2.2.2.2.1
  refine ok_aloadn (pc' := 1) i209_0 rfl rfl <| ok_aloadn (pc' := 2) i209_1 rfl rfl <| ?_
  have hF0 : FD g M g M O S W t 0 0 0 := ⟨hC.1, hS, hC.2.2.2.2.1, fun x x0 x1 => absurd x0 (by omega), fun x x0 => rfl, fun y hy => rfl, Fr.rfl, by have := hS.2.2.2.2.2.2.2; have := hC.2.2.2.2.2.2.2.2.2.2; omega⟩
  have h210 : Ok 10 210 0 [aR O, aR S, aU, aU, aU] [] g M (fun o g1 M1 => ∃ i : Int, o = .inl (some (aI 1)) ∧ FD g M g1 M1 O S W t i 34 170 ∧ t.1 ≤ i ∧ i ≤ 680) := ok_iconst (pc' := 1) i210_0 rfl <| ok_istoren (pc' := 2) (ls' := [aR O, aR S, aI 0, aU, aU]) i210_1 (bt rfl) rfl rfl <| w210_2 (d := 0) hF0 ht (fun g1 M1 i h1 h2 h3 => ⟨i, rfl, h1, h2, h3⟩)
  refine ok_cc i209_2 rfl (cl_s o209 m13_23 na210 rfl rfl (bt rfl) (bt rfl) rfl) ln210 (pd210 (aR O) (aR S)) <| (Ok.deep h210 (by omega)).mono (fun o9 g1 M1 p1 => ?_)
  obtain ⟨i, rfl, hF, hi1, hi2⟩ := p1
  refine kt_v (pc' := 5) rfl <| ok_kz0 (pc1 := 19) (pc2 := 8) i209_5 (by decide) rfl rfl <| ok_aloadn (pc' := 9) i209_8 rfl rfl <| ok_aloadn (pc' := 10) i209_9 rfl rfl <| ?_
  refine ok_cc i209_10 rfl (cl_vs o209 m13_7 na1 rfl rfl (bt rfl) (bt rfl) rfl ⟨o1, hF.2.1.1⟩) ln1 (pd1 (aR S)) <| (Ok.deep (t1s hF.s (by omega)) (by omega)).mono (fun o9 g16l M16l p16l => ?_)
  obtain ⟨rfl, eg16l, em16l⟩ := p16l
  rw [eg16l, em16l]
  refine kt_v (pc' := 13) rfl <| ?_
  obtain ⟨hCg, hPs, hPp, hPb, hp0, hl0, hId, hh, hz, hx0, hO⟩ := hC
  have f1 := hF.2.2.2.2.2.2.1
  have hno : ∀ c : Nat, c ≠ O → c ≠ O + 1 → ¬ FE O c := fun c h1 h2 hc => by unfold FE at hc; omega
  have sg : ∀ c : Nat, c ≠ O → c ≠ O + 1 → c < O + 348 → SG g g1 c := fun c h1 h2 h3 => f1.sg (by omega) (hno c h1 h2)
  have mm : ∀ c : Nat, c ≠ O → c ≠ O + 1 → c < O + 348 → M1 c = M c := fun c h1 h2 h3 => f1.m (by omega) (hno c h1 h2)
  have hBS1 := hBS.fr f1 (fun c c0 => hno c (by omega) (by omega))
  have hag : AgT (M1 (O + 1)) t := fun x x0 x1 => by rw [hF.2.2.2.1 x x0 (by omega)]; exact if_pos ⟨x0, x1⟩
  have htx := hPI.fin hag
  have hby : ∀ x : Int, 0 ≤ x → x < 700 → -128 ≤ M1 (O + 1) x ∧ M1 (O + 1) x < 128 := fun x x0 x1 => by
    by_cases hxi : x < i
    · rw [hF.2.2.2.1 x x0 hxi]; have := hx_rg hF.s x; omega
    · rw [hF.2.2.2.2.1 x (by omega), hz x]; omega
  have hPs1 : ShParser g1 (O + 2) (O + 1) (O + 3) (O + 14) := by unfold ShParser at hPs ⊢; rw [(sg (O + 2) (by omega) (by omega) (by omega)).1, (sg (O + 2) (by omega) (by omega) (by omega)).2.2]; exact hPs
  have hPp1 := ShPlan_fx hPp (fun c c0 c1 => sg c (by omega) (by omega) (by omega))
  have hPb1 := ShState_fx hPb (fun c c0 c1 => sg c (by omega) (by omega) (by omega))
  have hId1 := Idle_fr hId (fun a a0 a1 a2 => mm a (by omega) (by omega) (by omega))
  have h102 := mm (O + 102) (by omega) (by omega) (by omega)
  refine ok_cc i209_13 rfl (cl_v o209 m13_29 na96 rfl rfl (bt rfl) (bt rfl) rfl (by rw [ShYard_k0 hF.1.y, o96])) ln96 (pd96 (aR O) (aI t.1)) <| (Ok.deep (t96 h111 hF.1 hPs1 hPp1 hPb1 hF.2.2.1 ⟨by omega, hi1⟩ (by omega) (by omega) hby hBS1.wd hId1 (by rw [h102]; omega) htx) (by omega)).mono (fun o9 g9 M9 p9 => ?_)
  obtain ⟨rfl, eg9, hCM, k3, k4, k5, hoc⟩ := p9
  rw [eg9]
  refine kt_v (pc' := 16) rfl <| ok_goto (pc' := 21) i209_16 rfl <| ok_ireti i209_21 rt209 <| ?_
  have hn1 := f1.n
  exact ⟨rfl, ⟨hF.1, hCM, by omega⟩, k3, k4, k5, Fr.w (Fr.trans (f1.wide (fun c hc => by unfold FE at hc; unfold FC; omega) (Nat.le_refl _) (Nat.le_refl _)) (Fr.wr (fun c hc => hoc c (by omega)))) (by omega) (by omega)⟩
