/-! THE LAW: whole -/
section LAW
variable {g : AG} {M : AM} {O L : Nat} {d b : Int} {A : YA} {s q : Int → Int} {n z dd : Nat} {Q : AO → AG → AM → Prop}
theorem law_end {tt : Int} (H : MTx g M O L d b A s q n z) (hret : ∀ (g1 : AG) (M1 : AM), gN g1 ≤ n + 40 → gS g1 ≤ z + 300 → Q (.inl (some (aI 1))) g1 M1) : Ok (dd + 22) 0 269 [aR 1, aR 100, aR 101, aR O, aI tt] [] g M Q :=
  law_269 H fun _ _ Ha => law_331 Ha fun _ _ Hb => law_418 Hb fun _ _ Hc => law_481 Hc fun g1 M1 k1 k2 => hret g1 M1 (by omega) (by omega)
theorem law_215 {tt : Int} (H : MTx g M O L d 0 A s q 700 21000) (ht : 1 ≤ tt ∧ tt ≤ 14) (hd : d ≤ 60) (hret : ∀ (g1 : AG) (M1 : AM), gN g1 ≤ 600086 → gS g1 ≤ 7301442 → Q (.inl (some (aI 1))) g1 M1) : Ok (dd + 22) 0 215 [aR 1, aR 100, aR 101, aR O, aI tt] [] g M Q := by
  refine ok_lp (σ := Int) (fun k ls g9 M9 => ls = [aR 1, aR 100, aR 101, aR O, aI k] ∧ ∃ (A1 : YA) (s1 : Int → Int) (d1 b1 : Int) (n1 z1 j : Nat), MTx g9 M9 O L d1 b1 A1 s1 q n1 z1 ∧ b1 = 6 * (j : Int) ∧ n1 = 700 + 9397 * j ∧ z1 = 21000 + 205550 * j ∧ 0 ≤ k ∧ k + j ≤ 14 ∧ d1 ≤ 60 + 3 * (j : Int)) (fun k => k.toNat) ?_ tt _ g M ⟨rfl, A, s, d, 0, 700, 21000, 0, H, by omega, by omega, by omega, by omega, by omega, by omega⟩
  rintro k ls g9 M9 ⟨rfl, A1, s1, d1, b1, n1, z1, j, H1, hb, hn, hz, hk0, hk, hd1⟩ ih
  refine ok_iload (pc' := 217) i0_215 rfl rfl <| ok_zle (pc1 := 269) (pc2 := 220) i0_217 (by omega) rfl rfl (fun hc => ?_) (fun hc => ?_)
  · exact law_end H1 fun g2 M2 k1 k2 => hret g2 M2 (by omega) (by omega)
  · exact law_220 H1 ⟨by omega, by omega⟩ (by omega) (by omega) fun g2 M2 A2 s2 H2 => ih (k + (-1)) _ g2 M2 (by omega) ⟨rfl, A2, s2, _, _, _, _, j + 1, H2, by omega, by omega, by omega, by omega, by omega, by omega⟩
theorem law_148 (H : MTx g M O L d 0 A s q 700 21000) (hd : d ≤ 47) (hret : ∀ (g1 : AG) (M1 : AM), gN g1 ≤ 600086 → gS g1 ≤ 7301442 → Q (.inl (some (aI 1))) g1 M1) : Ok (dd + 22) 0 148 [aR 1, aR 100, aR 101, aR O, aU] [] g M Q := by
  refine ok_iconst (pc' := 149) i0_148 rfl <| ok_istore (pc' := 151) (ls' := [aR 1, aR 100, aR 101, aR O, aI 0]) i0_149 (bt rfl) rfl rfl <| law_151 H fun k => ?_
  have hDr := MTx.dr H
  refine ok_aloadn (pc' := 207) i0_206 rfl rfl <| ok_iconst (pc' := 208) i0_207 rfl <| ok_bipush (v := 14) (pc' := 210) i0_208 rfl rfl <| ?_
  refine ok_cc i0_210 rfl (cl_v o0 m13_222 na192 rfl rfl (bt rfl) (bt rfl) rfl (by rw [hDr.1, o192])) ln192 (pd192 (aR 100) (aI 1) (aI 14)) <| (Ok.deep (t192 hDr ⟨by omega, by omega⟩ (by omega)) (by omega)).mono (fun o9 g1 M1 p9 => ?_)
  obtain ⟨v, rfl, v1, v2, rfl, rfl⟩ := p9
  refine kt_v (pc' := 213) rfl <| ok_istore (pc' := 215) (ls' := [aR 1, aR 100, aR 101, aR O, aI v]) i0_213 (bt rfl) rfl rfl <| ?_
  exact law_215 (MTx.dw H (by omega)) ⟨v1, v2⟩ (by omega) hret
end LAW
theorem am_all_scripts (L : Nat) (hL : L ≤ 260) (xs : Nat → Int32) : am_goal L xs := by
  have h : Ok 22 0 0 [aR 1, aU, aU, aU, aU] [] (am_g0 L) (am_M0 xs) (fun o g' _ => o = .inl (some (aI 1)) ∧ gN g' ≤ 600086 ∧ gS g' ≤ 7301442) :=
    law_0 (dd := 0) hL fun g M O d t A s q V C hY hC hB hD hS hr hPI hd ht hq0 hV hn hz =>
      law_26 (dd := 0) ⟨hY, hC, hB, hD, hS, hr, hn, hz⟩ hPI ht hV hq0 fun g1 M1 H1 => law_148 (dd := 0) H1 (by omega) fun _ _ k1 k2 => ⟨rfl, k1, k2⟩
  obtain ⟨f, o, g', M', e, ho, h1, h2⟩ := h.deep (show 22 ≤ 1000 by decide)
  subst ho
  refine ⟨f, g', M', ?_, h1, h2⟩
  have ep : am_pad 0 [aR 1] = [aR 1, aU, aU, aU, aU] := by unfold am_pad; rw [am_l0]; rfl
  rw [ep]
  exact e
