/-! THE LAW: what its parts need -/
theorem y142_z {g : AG} {M : AM} {Y P A V T K H X : Nat} {x1 n : Int} (hSY : ShYard g Y P A V T K H X) (hSX : ShText g X) (h0 : x1 = n) (h1 : 0 ≤ n ∧ n ≤ 320) (hX1 : M X 1 = n) :
    Ok 0 142 0 [aR Y, aI x1] [] g M (fun o g1 M1 => o = .inr 10 ∧ g1 = am_alloc g 30 0 6 ∧ M1 = M) := by
  refine ok_iloadn (pc' := 1) i142_0 rfl rfl <| ?_
  refine ok_zlt (pc1 := 15) (pc2 := 4) i142_1 (by omega) rfl rfl (fun h9 => by exfalso; omega) (fun h1 => ?_)
  refine ok_iloadn (pc' := 5) i142_4 rfl rfl <| ok_aloadn (pc' := 6) i142_5 rfl rfl <| ok_getfr (r := X) (pc' := 9) i142_6 o142 gr0_86 (ShYard_k0 hSY) (ShYard_r15 hSY) rfl <| ok_getfi (v := n) (pc' := 12) i142_9 o142 gi0_280 (ShText_k0 hSX) hX1 rfl <| ?_
  refine ok_clt (pc1 := 26) (pc2 := 15) i142_12 (by omega) rfl rfl (fun h9 => by exfalso; omega) (fun h2 => ?_)
  refine ok_throw th142_15 (bt rfl) <| ?_
  exact ⟨rfl, rfl, rfl⟩

theorem w214_0b {g : AG} {M : AM} {O L : Nat} {A : YA} {s q : Int → Int} {b d0 : Int} {d : Nat} {Q : AO → AG → AM → Prop} (hY : Yd g M O A s q) (hW : CW g M O b q s) (hD : Dr g M L d0) (hd : d0 + 3 ≤ 1000000) (K : ∀ (M1 : AM) (w v k : Int), 0 ≤ w ∧ w ≤ 13 → 1 ≤ v ∧ v ≤ 7 → 0 ≤ k ∧ k ≤ 15 → Yd g M1 O A s q → CW g M1 O b q s → Dr g M1 L (d0 + 1 + 1 + 1) → (∀ c : Nat, c ≠ 100 → M1 c = M c) → Ok (d + 13) 214 26 [aR O, aR 101, aR 100, aI w, aI v, aI k, aU, aU] [] g M1 Q) : Ok (d + 13) 214 0 [aR O, aR 101, aR 100, aU, aU, aU, aU, aU] [] g M Q := by
  refine ok_aloadn (pc' := 1) i214_0 rfl rfl <| ok_iconst (pc' := 2) i214_1 rfl <| ok_bipush (v := 13) (pc' := 4) i214_2 rfl rfl <| ?_
  refine ok_cc i214_4 rfl (cl_v o214 m13_222 na192 rfl rfl (bt rfl) (bt rfl) rfl (by rw [hD.1, o192])) ln192 (pd192 (aR 100) (aI 0) (aI 13)) <| (Ok.deep (t192 hD ⟨by omega, by omega⟩ (by omega)) (by omega)).mono (fun o9 g38d M38d p38d => ?_)
  obtain ⟨v38, rfl, hl38, hh38, rfl, rfl⟩ := p38d
  have hDn38 := Dr.nx hD (by omega)
  have hYn38 := Yd.mm hY (dm_ne (v := (d0 + 1)))
  have hWq38 := CW.mm hY.gr.o hW (dm_ne (v := (d0 + 1)))
  refine kt_v (pc' := 7) rfl <| ok_istoren (pc' := 8) (ls' := [aR O, aR 101, aR 100, aI v38, aU, aU, aU, aU]) i214_7 (bt rfl) rfl rfl <| ok_aloadn (pc' := 9) i214_8 rfl rfl <| ok_iconst (pc' := 10) i214_9 rfl <| ok_bipush (v := 7) (pc' := 12) i214_10 rfl rfl <| ?_
  refine ok_cc i214_12 rfl (cl_v o214 m13_222 na192 rfl rfl (bt rfl) (bt rfl) rfl (by rw [hDn38.1, o192])) ln192 (pd192 (aR 100) (aI 1) (aI 7)) <| (Ok.deep (t192 hDn38 ⟨by omega, by omega⟩ (by omega)) (by omega)).mono (fun o9 g39d M39d p39d => ?_)
  obtain ⟨v39, rfl, hl39, hh39, rfl, rfl⟩ := p39d
  have hDn39 := Dr.nx hDn38 (by omega)
  have hYn39 := Yd.mm hYn38 (dm_ne (v := ((d0 + 1) + 1)))
  have hWq39 := CW.mm hYn38.gr.o hWq38 (dm_ne (v := ((d0 + 1) + 1)))
  refine kt_v (pc' := 15) rfl <| ok_istore (pc' := 17) (ls' := [aR O, aR 101, aR 100, aI v38, aI v39, aU, aU, aU]) i214_15 (bt rfl) rfl rfl <| ok_aloadn (pc' := 18) i214_17 rfl rfl <| ok_iconst (pc' := 19) i214_18 rfl <| ok_bipush (v := 15) (pc' := 21) i214_19 rfl rfl <| ?_
  refine ok_cc i214_21 rfl (cl_v o214 m13_222 na192 rfl rfl (bt rfl) (bt rfl) rfl (by rw [hDn39.1, o192])) ln192 (pd192 (aR 100) (aI 0) (aI 15)) <| (Ok.deep (t192 hDn39 ⟨by omega, by omega⟩ (by omega)) (by omega)).mono (fun o9 g40d M40d p40d => ?_)
  obtain ⟨v40, rfl, hl40, hh40, rfl, rfl⟩ := p40d
  have hDn40 := Dr.nx hDn39 (by omega)
  have hYn40 := Yd.mm hYn39 (dm_ne (v := (((d0 + 1) + 1) + 1)))
  have hWq40 := CW.mm hYn39.gr.o hWq39 (dm_ne (v := (((d0 + 1) + 1) + 1)))
  refine kt_v (pc' := 24) rfl <| ok_istore (pc' := 26) (ls' := [aR O, aR 101, aR 100, aI v38, aI v39, aI v40, aU, aU]) i214_24 (bt rfl) rfl rfl <| ?_
  exact K _ v38 v39 v40 ⟨hl38, hh38⟩ ⟨hl39, hh39⟩ ⟨hl40, hh40⟩ hYn40 hWq40 hDn40 (fun c hc => by rw [up2_na hc, up2_na hc, up2_na hc])
/-- a change of both -/
theorem t214b {g : AG} {M : AM} {O L : Nat} {A : YA} {s q : Int → Int} {b d0 : Int} (hY : Yd g M O A s q) (hW : CW g M O b q s) (hD : Dr g M L d0) (hd : d0 + 3 ≤ 1000000) (hq0 : 1 ≤ q 0) (h542 : s 542 = 0) (h40 : s 3 ≤ 40) (hb : b + 6 ≤ 200) : Ok 13 214 0 [aR O, aR 101, aR 100, aU, aU, aU, aU, aU] [] g M (fun o g1 M1 => o = .inl (some (aI 1)) ∧ ∃ (A1 : YA) (s1 : Int → Int), Yd g1 M1 O A1 s1 q ∧ CW g1 M1 O (b + 6) q s1 ∧ s1 542 = 0 ∧ s1 3 ≤ 40 ∧ Dr g1 M1 L (d0 + 1 + 1 + 1) ∧ gN g ≤ gN g1 ∧ gN g1 ≤ gN g + 8900 ∧ gS g1 ≤ gS g + 200000 ∧ ∀ c : Nat, c < 100 → SG g g1 c ∧ M1 c = M c) := by
  have hg := hY.gr.n
  refine w214_0b (d := 0) hY hW hD hd (fun M1 w v k hw hv hk hY1 hW1 hD1 hm1 => ?_)
  have hV := hW.2.1.v
  have y3 := V_3 hV
  have y4 := V_4 hV
  by_cases c1 : w < 2
  · exact w214_fill (d := 1) hY1 hW1 hv hk h542 h40 hb ⟨hw.1, c1⟩ (fun g1 M2 A1 s1 y1 y2 y3 y4 y5 => ⟨rfl, A1, s1, y1, y2, y3, y4, Dr.fr hD1 y5 (by omega), y5.1, by have := y5.2.1; omega, by have := y5.2.2.1; omega, fun c c0 => ⟨y5.sg (by omega) (fun h => by unfold FA at h; omega), (y5.m (by omega) (fun h => by unfold FA at h; omega)).trans (hm1 c (by omega))⟩⟩)
  by_cases c2 : w < 4
  · exact w214_end (d := 1) hY1 hW1 hv hk h542 h40 hb ⟨by omega, c2⟩ (fun g1 M2 A1 s1 y1 y2 y3 y4 y5 => ⟨rfl, A1, s1, y1, y2, y3, y4, Dr.fr hD1 y5 (by omega), y5.1, by have := y5.2.1; omega, by have := y5.2.2.1; omega, fun c c0 => ⟨y5.sg (by omega) (fun h => by unfold FA at h; omega), (y5.m (by omega) (fun h => by unfold FA at h; omega)).trans (hm1 c (by omega))⟩⟩)
  by_cases c3 : w = 4
  · by_cases c4 : s 3 = 40
    · exact w214_buy0 (d := 1) hY1 hW1 hv hk h542 h40 hb c3 hq0 c4 (fun g1 M2 A1 s1 y1 y2 y3 y4 y5 => ⟨rfl, A1, s1, y1, y2, y3, y4, Dr.fr hD1 y5 (by omega), y5.1, by have := y5.2.1; omega, by have := y5.2.2.1; omega, fun c c0 => ⟨y5.sg (by omega) (fun h => by unfold FA at h; omega), (y5.m (by omega) (fun h => by unfold FA at h; omega)).trans (hm1 c (by omega))⟩⟩)
    · exact w214_buy1 (d := 1) hY1 hW1 hv hk h542 h40 hb c3 hq0 (by omega) (fun g1 M2 A1 s1 y1 y2 y3 y4 y5 => ⟨rfl, A1, s1, y1, y2, y3, y4, Dr.fr hD1 y5 (by omega), y5.1, by have := y5.2.1; omega, by have := y5.2.2.1; omega, fun c c0 => ⟨y5.sg (by omega) (fun h => by unfold FA at h; omega), (y5.m (by omega) (fun h => by unfold FA at h; omega)).trans (hm1 c (by omega))⟩⟩)
  by_cases c5 : w < 7
  · by_cases c4 : s 4 = 16
    · exact w214_ord0 (d := 1) hY1 hW1 hv hk h542 h40 hb ⟨by omega, c5⟩ c4 (fun g1 M2 A1 s1 y1 y2 y3 y4 y5 => ⟨rfl, A1, s1, y1, y2, y3, y4, Dr.fr hD1 y5 (by omega), y5.1, by have := y5.2.1; omega, by have := y5.2.2.1; omega, fun c c0 => ⟨y5.sg (by omega) (fun h => by unfold FA at h; omega), (y5.m (by omega) (fun h => by unfold FA at h; omega)).trans (hm1 c (by omega))⟩⟩)
    · exact w214_ord1 (d := 1) hY1 hW1 hv hk h542 h40 hb ⟨by omega, c5⟩ (by omega) (fun g1 M2 A1 s1 y1 y2 y3 y4 y5 => ⟨rfl, A1, s1, y1, y2, y3, y4, Dr.fr hD1 y5 (by omega), y5.1, by have := y5.2.1; omega, by have := y5.2.2.1; omega, fun c c0 => ⟨y5.sg (by omega) (fun h => by unfold FA at h; omega), (y5.m (by omega) (fun h => by unfold FA at h; omega)).trans (hm1 c (by omega))⟩⟩)
  by_cases c6 : w = 7
  · by_cases c4 : s 4 = 0
    · exact w214_can0 (d := 1) hY1 hW1 hv hk h542 h40 hb c6 c4 (fun g1 M2 A1 s1 y1 y2 y3 y4 y5 => ⟨rfl, A1, s1, y1, y2, y3, y4, Dr.fr hD1 y5 (by omega), y5.1, by have := y5.2.1; omega, by have := y5.2.2.1; omega, fun c c0 => ⟨y5.sg (by omega) (fun h => by unfold FA at h; omega), (y5.m (by omega) (fun h => by unfold FA at h; omega)).trans (hm1 c (by omega))⟩⟩)
    · by_cases c7 : s ((414 + (8 * (Int.tmod k (s 4)))) + 4) = 0
      · exact w214_can1 (d := 1) hY1 hW1 hv hk h542 h40 hb c6 (by omega) c7 (fun g1 M2 A1 s1 y1 y2 y3 y4 y5 => ⟨rfl, A1, s1, y1, y2, y3, y4, Dr.fr hD1 y5 (by omega), y5.1, by have := y5.2.1; omega, by have := y5.2.2.1; omega, fun c c0 => ⟨y5.sg (by omega) (fun h => by unfold FA at h; omega), (y5.m (by omega) (fun h => by unfold FA at h; omega)).trans (hm1 c (by omega))⟩⟩)
      · exact w214_can2 (d := 1) hY1 hW1 hv hk h542 h40 hb c6 (by omega) c7 (fun g1 M2 A1 s1 y1 y2 y3 y4 y5 => ⟨rfl, A1, s1, y1, y2, y3, y4, Dr.fr hD1 y5 (by omega), y5.1, by have := y5.2.1; omega, by have := y5.2.2.1; omega, fun c c0 => ⟨y5.sg (by omega) (fun h => by unfold FA at h; omega), (y5.m (by omega) (fun h => by unfold FA at h; omega)).trans (hm1 c (by omega))⟩⟩)
  by_cases c8 : w = 8
  · by_cases c4 : k < 8
    · exact w214_set0 (d := 1) hY1 hW1 hv hk h542 h40 hb c8 ⟨hk.1, c4⟩ (fun g1 M2 A1 s1 y1 y2 y3 y4 y5 => ⟨rfl, A1, s1, y1, y2, y3, y4, Dr.fr hD1 y5 (by omega), y5.1, by have := y5.2.1; omega, by have := y5.2.2.1; omega, fun c c0 => ⟨y5.sg (by omega) (fun h => by unfold FA at h; omega), (y5.m (by omega) (fun h => by unfold FA at h; omega)).trans (hm1 c (by omega))⟩⟩)
    · exact w214_set1 (d := 1) hY1 hW1 hv hk h542 h40 hb c8 ⟨by omega, hk.2⟩ (fun g1 M2 A1 s1 y1 y2 y3 y4 y5 => ⟨rfl, A1, s1, y1, y2, y3, y4, Dr.fr hD1 y5 (by omega), y5.1, by have := y5.2.1; omega, by have := y5.2.2.1; omega, fun c c0 => ⟨y5.sg (by omega) (fun h => by unfold FA at h; omega), (y5.m (by omega) (fun h => by unfold FA at h; omega)).trans (hm1 c (by omega))⟩⟩)
  by_cases c9 : s 3 = 0
  · exact w214_cut0 (d := 1) hY1 hW1 hv hk h542 h40 hb hw.2 (by omega) c9 (fun g1 M2 A1 s1 y1 y2 y3 y4 y5 => ⟨rfl, A1, s1, y1, y2, y3, y4, Dr.fr hD1 y5 (by omega), y5.1, by have := y5.2.1; omega, by have := y5.2.2.1; omega, fun c c0 => ⟨y5.sg (by omega) (fun h => by unfold FA at h; omega), (y5.m (by omega) (fun h => by unfold FA at h; omega)).trans (hm1 c (by omega))⟩⟩)
  · exact w214_cut1 (d := 0) hY1 hW1 hv hk h542 h40 hb ⟨by omega, hw.2⟩ (by omega) (fun g1 M2 A1 s1 y1 y2 y3 y4 y5 => ⟨rfl, A1, s1, y1, y2, y3, y4, Dr.fr hD1 y5 (by omega), y5.1, by have := y5.2.1; omega, by have := y5.2.2.1; omega, fun c c0 => ⟨y5.sg (by omega) (fun h => by unfold FA at h; omega), (y5.m (by omega) (fun h => by unfold FA at h; omega)).trans (hm1 c (by omega))⟩⟩)
theorem Dr.f0 {nc ns : Nat} {g g1 : AG} {M M1 : AM} {L : Nat} {d : Int} (h : Dr g M L d) (e : Fr FN nc ns g M g1 M1) (hn : 1 ≤ gN g) : Dr g1 M1 L d := by
  obtain ⟨b1, b2, b3, b4, b5, b6⟩ := h
  exact ⟨(e.k (by omega)).trans b1, by rw [e.r0 (by omega)]; exact b2, (e.k (by omega)).trans b3, (e.l (by omega)).trans b4, by rw [e.m0 (by omega)]; exact b5, b6⟩
theorem Dr.fc {nc ns O : Nat} {g g1 : AG} {M M1 : AM} {L : Nat} {d : Int} (h : Dr g M L d) (e : Fr (FC O) nc ns g M g1 M1) (hn : 1 ≤ gN g) (ho : 111 ≤ O) : Dr g1 M1 L d := by
  obtain ⟨b1, b2, b3, b4, b5, b6⟩ := h
  have n1 : ¬ FC O 100 := fun h => by unfold FC at h; omega
  exact ⟨(e.k (by omega)).trans b1, by rw [e.r (by omega) n1]; exact b2, (e.k (by omega)).trans b3, (e.l (by omega)).trans b4, by rw [e.m (by omega) n1]; exact b5, b6⟩
theorem BS.f0 {nc ns : Nat} {g g1 : AG} {M M1 : AM} (h : BS g M) (e : Fr FN nc ns g M g1 M1) : BS g1 M1 := h.fr e (fun _ _ h => h)
theorem BS.fc {nc ns O : Nat} {g g1 : AG} {M M1 : AM} (h : BS g M) (e : Fr (FC O) nc ns g M g1 M1) (ho : 111 ≤ O) : BS g1 M1 := h.fr e (fun c c0 h => by unfold FC at h; omega)
/-- the object that is made -/
theorem new_cf {g g1 g9 : AG} {M M1 M9 : AM} {O : Nat} {o : AO} (hx : 100 + gN g = O) (hn : gN g1 = gN g + 1) (e : Fr FN 1 16 g M g1 M1) (h : o = .inl none ∧ gN g9 = gN g1 + 347 ∧ gS g9 = gS g1 + 14470 ∧ ShYard g9 O (O + 38) (O + 49) (O + 73) (O + 74) (O + 100) (O + 102) (O + 346) ∧ ShParser g9 (O + 2) (O + 1) (O + 3) (O + 14) ∧ ShBytes g9 (O + 1) ∧ ShPlan g9 (O + 3) ∧ ShState g9 (O + 14) ∧ ShPlan g9 (O + 38) ∧ ShState g9 (O + 49) ∧ ShWorks g9 (O + 73) (O + 38) (O + 49) ∧ ShTrial g9 (O + 74) (O + 38) (O + 49) (O + 75) (O + 99) ∧ ShState g9 (O + 75) ∧ ShWorks g9 (O + 99) (O + 38) (O + 75) ∧ ShPacking g9 (O + 100) (O + 49) ∧ ShHist g9 (O + 102) ∧ (∀ j : Nat, j < 8 → ShState g9 (O + 104 + 24 * j)) ∧ (∀ j : Nat, j < 2 → ShState g9 (O + 297 + 24 * j)) ∧ ShText g9 (O + 346) ∧ M9 O 4 = -1 ∧ M9 O 5 = -1 ∧ (∀ c : Nat, c < O → SG g1 g9 c) ∧ (∀ c : Nat, c < O → M9 c = M1 c) ∧ ∀ c : Nat, O ≤ c → c ≤ (O + 347) → ∀ i : Int, ¬ (c = O ∧ i = 4) → ¬ (c = O ∧ i = 5) → M9 c i = 0) : o = .inl none ∧ CF g9 M9 O ∧ Fr FN 348 14486 g M g9 M9 := by
  obtain ⟨h0, h1, h2, h3, h4, h5, h6, h7, h8, h9, h10, h11, h12, h13, h14, h15, h16, h17, h18, h19, h20, h21, h22, h23⟩ := h
  have z : ∀ c : Nat, O ≤ c → c ≤ O + 347 → ∀ i : Int, ¬ (c = O ∧ i = 4) → ¬ (c = O ∧ i = 5) → M9 c i = 0 := h23
  refine ⟨h0, ⟨⟨h3, h8, h9, h10, h15, h16, h18⟩, h4, h6, h7, z O (by omega) (by omega) 1 (by omega) (by omega), z O (by omega) (by omega) 6 (by omega) (by omega), ⟨z (O + 14) (by omega) (by omega) 0 (by omega) (by omega), z (O + 14) (by omega) (by omega) 7 (by omega) (by omega), fun i _ _ => z (O + 14 + 23) (by omega) (by omega) i (by omega) (by omega), fun i _ _ => z (O + 14 + 17) (by omega) (by omega) i (by omega) (by omega)⟩, ⟨z (O + 102) (by omega) (by omega) 1 (by omega) (by omega), z (O + 102) (by omega) (by omega) 2 (by omega) (by omega)⟩, fun i => z (O + 1) (by omega) (by omega) i (by omega) (by omega), z (O + 346) (by omega) (by omega) 1 (by omega) (by omega), by omega⟩, ?_⟩
  have en := e.2.1
  have es := e.2.2.1
  refine ⟨by omega, by omega, by omega, fun c hc => ⟨⟨(h21 c (by omega)).1.trans (e.k hc), (h21 c (by omega)).2.1.trans (e.l hc)⟩, fun hn => ⟨(h21 c (by omega)).2.2.trans (e.r0 hc), (h22 c (by omega)).trans (e.m0 hc)⟩⟩⟩
