/-! WHAT A CALL THROWS (by program, wip/p60/gen) -/
theorem o212 : am_oc 212 = 13 := by decide +kernel
theorem hh212 : am_hh 212 = [] := rfl
theorem m13_126 : am_mlk 13 126 0 111 = true := by decide +kernel
theorem na111 : am_na 111 = 0 := by decide +kernel
theorem nl111 : am_nL 111 = 1 := by decide +kernel
theorem pd111 : ∀ a0 : AV, am_pad 111 [a0] = [a0] := by intros; unfold am_pad; rw [nl111]; rfl
theorem ln111 : 1 ≤ am_nL 111 := by rw [nl111]; decide
theorem m13_33 : am_mlk 13 33 0 98 = true := by decide +kernel
theorem na98 : am_na 98 = 1 := by decide +kernel
theorem nl98 : am_nL 98 = 2 := by decide +kernel
theorem pd98 : ∀ a0 a1 : AV, am_pad 98 [a0, a1] = [a0, a1] := by intros; unfold am_pad; rw [nl98]; rfl
theorem ln98 : 2 ≤ am_nL 98 := by rw [nl98]; decide
theorem m13_111 : am_mlk 13 111 0 152 = true := by decide +kernel
theorem na152 : am_na 152 = 0 := by decide +kernel
theorem nl152 : am_nL 152 = 1 := by decide +kernel
theorem pd152 : ∀ a0 : AV, am_pad 152 [a0] = [a0] := by intros; unfold am_pad; rw [nl152]; rfl
theorem ln152 : 1 ≤ am_nL 152 := by rw [nl152]; decide
theorem m13_80 : am_mlk 13 80 0 142 = true := by decide +kernel
theorem na142 : am_na 142 = 1 := by decide +kernel
theorem nl142 : am_nL 142 = 2 := by decide +kernel
theorem pd142 : ∀ a0 a1 : AV, am_pad 142 [a0, a1] = [a0, a1] := by intros; unfold am_pad; rw [nl142]; rfl
theorem ln142 : 2 ≤ am_nL 142 := by rw [nl142]; decide
theorem m13_95 : am_mlk 13 95 0 147 = true := by decide +kernel
theorem na147 : am_na 147 = 1 := by decide +kernel
theorem nl147 : am_nL 147 = 2 := by decide +kernel
theorem pd147 : ∀ a0 a1 : AV, am_pad 147 [a0, a1] = [a0, a1] := by intros; unfold am_pad; rw [nl147]; rfl
theorem ln147 : 2 ≤ am_nL 147 := by rw [nl147]; decide
theorem m13_98 : am_mlk 13 98 0 148 = true := by decide +kernel
theorem na148 : am_na 148 = 4 := by decide +kernel
theorem nl148 : am_nL 148 = 6 := by decide +kernel
theorem pd148 : ∀ a0 a1 a2 a3 a4 : AV, am_pad 148 [a0, a1, a2, a3, a4] = [a0, a1, a2, a3, a4, aU] := by intros; unfold am_pad; rw [nl148]; rfl
theorem ln148 : 5 ≤ am_nL 148 := by rw [nl148]; decide
theorem m13_102 : am_mlk 13 102 0 149 = true := by decide +kernel
theorem na149 : am_na 149 = 1 := by decide +kernel
theorem nl149 : am_nL 149 = 3 := by decide +kernel
theorem pd149 : ∀ a0 a1 : AV, am_pad 149 [a0, a1] = [a0, a1, aU] := by intros; unfold am_pad; rw [nl149]; rfl
theorem ln149 : 2 ≤ am_nL 149 := by rw [nl149]; decide
theorem m13_108 : am_mlk 13 108 0 151 = true := by decide +kernel
theorem na151 : am_na 151 = 2 := by decide +kernel
theorem nl151 : am_nL 151 = 4 := by decide +kernel
theorem pd151 : ∀ a0 a1 a2 : AV, am_pad 151 [a0, a1, a2] = [a0, a1, a2, aU] := by intros; unfold am_pad; rw [nl151]; rfl
theorem ln151 : 3 ≤ am_nL 151 := by rw [nl151]; decide
theorem m13_83 : am_mlk 13 83 0 143 = true := by decide +kernel
theorem na143 : am_na 143 = 2 := by decide +kernel
theorem nl143 : am_nL 143 = 3 := by decide +kernel
theorem pd143 : ∀ a0 a1 a2 : AV, am_pad 143 [a0, a1, a2] = [a0, a1, a2] := by intros; unfold am_pad; rw [nl143]; rfl
theorem ln143 : 3 ≤ am_nL 143 := by rw [nl143]; decide
theorem m13_105 : am_mlk 13 105 0 150 = true := by decide +kernel
theorem na150 : am_na 150 = 1 := by decide +kernel
theorem nl150 : am_nL 150 = 2 := by decide +kernel
theorem pd150 : ∀ a0 a1 : AV, am_pad 150 [a0, a1] = [a0, a1] := by intros; unfold am_pad; rw [nl150]; rfl
theorem ln150 : 2 ≤ am_nL 150 := by rw [nl150]; decide
theorem m13_86 : am_mlk 13 86 0 144 = true := by decide +kernel
theorem na144 : am_na 144 = 2 := by decide +kernel
theorem nl144 : am_nL 144 = 3 := by decide +kernel
theorem pd144 : ∀ a0 a1 a2 : AV, am_pad 144 [a0, a1, a2] = [a0, a1, a2] := by intros; unfold am_pad; rw [nl144]; rfl
theorem ln144 : 3 ≤ am_nL 144 := by rw [nl144]; decide
theorem m13_47 : am_mlk 13 47 0 109 = true := by decide +kernel
theorem na109 : am_na 109 = 2 := by decide +kernel
theorem nl109 : am_nL 109 = 3 := by decide +kernel
theorem pd109 : ∀ a0 a1 a2 : AV, am_pad 109 [a0, a1, a2] = [a0, a1, a2] := by intros; unfold am_pad; rw [nl109]; rfl
theorem ln109 : 3 ≤ am_nL 109 := by rw [nl109]; decide
theorem m13_74 : am_mlk 13 74 0 138 = true := by decide +kernel
theorem na138 : am_na 138 = 2 := by decide +kernel
theorem nl138 : am_nL 138 = 3 := by decide +kernel
theorem pd138 : ∀ a0 a1 a2 : AV, am_pad 138 [a0, a1, a2] = [a0, a1, a2] := by intros; unfold am_pad; rw [nl138]; rfl
theorem ln138 : 3 ≤ am_nL 138 := by rw [nl138]; decide
theorem m13_36 : am_mlk 13 36 0 100 = true := by decide +kernel
theorem na100 : am_na 100 = 2 := by decide +kernel
theorem nl100 : am_nL 100 = 3 := by decide +kernel
theorem pd100 : ∀ a0 a1 a2 : AV, am_pad 100 [a0, a1, a2] = [a0, a1, a2] := by intros; unfold am_pad; rw [nl100]; rfl
theorem ln100 : 3 ≤ am_nL 100 := by rw [nl100]; decide
theorem m13_40 : am_mlk 13 40 0 102 = true := by decide +kernel
theorem na102 : am_na 102 = 2 := by decide +kernel
theorem nl102 : am_nL 102 = 3 := by decide +kernel
theorem pd102 : ∀ a0 a1 a2 : AV, am_pad 102 [a0, a1, a2] = [a0, a1, a2] := by intros; unfold am_pad; rw [nl102]; rfl
theorem ln102 : 3 ≤ am_nL 102 := by rw [nl102]; decide
theorem m13_44 : am_mlk 13 44 0 105 = true := by decide +kernel
theorem na105 : am_na 105 = 2 := by decide +kernel
theorem nl105 : am_nL 105 = 3 := by decide +kernel
theorem pd105 : ∀ a0 a1 a2 : AV, am_pad 105 [a0, a1, a2] = [a0, a1, a2] := by intros; unfold am_pad; rw [nl105]; rfl
theorem ln105 : 3 ≤ am_nL 105 := by rw [nl105]; decide
theorem m13_50 : am_mlk 13 50 0 112 = true := by decide +kernel
theorem na112 : am_na 112 = 1 := by decide +kernel
theorem nl112 : am_nL 112 = 2 := by decide +kernel
theorem pd112 : ∀ a0 a1 : AV, am_pad 112 [a0, a1] = [a0, a1] := by intros; unfold am_pad; rw [nl112]; rfl
theorem ln112 : 2 ≤ am_nL 112 := by rw [nl112]; decide
theorem m13_56 : am_mlk 13 56 0 116 = true := by decide +kernel
theorem na116 : am_na 116 = 2 := by decide +kernel
theorem nl116 : am_nL 116 = 3 := by decide +kernel
theorem pd116 : ∀ a0 a1 a2 : AV, am_pad 116 [a0, a1, a2] = [a0, a1, a2] := by intros; unfold am_pad; rw [nl116]; rfl
theorem ln116 : 3 ≤ am_nL 116 := by rw [nl116]; decide
theorem m13_71 : am_mlk 13 71 0 135 = true := by decide +kernel
theorem na135 : am_na 135 = 1 := by decide +kernel
theorem nl135 : am_nL 135 = 2 := by decide +kernel
theorem pd135 : ∀ a0 a1 : AV, am_pad 135 [a0, a1] = [a0, a1] := by intros; unfold am_pad; rw [nl135]; rfl
theorem ln135 : 2 ≤ am_nL 135 := by rw [nl135]; decide
theorem m13_123 : am_mlk 13 123 0 110 = true := by decide +kernel
theorem na110 : am_na 110 = 1 := by decide +kernel
theorem nl110 : am_nL 110 = 2 := by decide +kernel
theorem pd110 : ∀ a0 a1 : AV, am_pad 110 [a0, a1] = [a0, a1] := by intros; unfold am_pad; rw [nl110]; rfl
theorem ln110 : 2 ≤ am_nL 110 := by rw [nl110]; decide
theorem m13_89 : am_mlk 13 89 0 145 = true := by decide +kernel
theorem na145 : am_na 145 = 1 := by decide +kernel
theorem nl145 : am_nL 145 = 2 := by decide +kernel
theorem pd145 : ∀ a0 a1 : AV, am_pad 145 [a0, a1] = [a0, a1] := by intros; unfold am_pad; rw [nl145]; rfl
theorem ln145 : 2 ≤ am_nL 145 := by rw [nl145]; decide
theorem o211 : am_oc 211 = 13 := by decide +kernel
theorem m13_129 : am_mlk 13 129 1 212 = true := by decide +kernel
theorem na212 : am_na 212 = 6 := by decide +kernel
theorem nl212 : am_nL 212 = 6 := by decide +kernel
theorem pd212 : ∀ a0 a1 a2 a3 a4 a5 : AV, am_pad 212 [a0, a1, a2, a3, a4, a5] = [a0, a1, a2, a3, a4, a5] := by intros; unfold am_pad; rw [nl212]; rfl
theorem ln212 : 6 ≤ am_nL 212 := by rw [nl212]; decide
theorem hn211 : am_hh 211 ≠ [] := by decide +kernel
theorem hf211_12 : am_find 211 8 12 (am_hh 211) = some (24, 135) := by decide +kernel
theorem hr211_24 : am_hret 211 24 = some 1 := by decide +kernel
theorem hf211_10 : am_find 211 8 10 (am_hh 211) = some (28, 137) := by decide +kernel
theorem hr211_28 : am_hret 211 28 = some 2 := by decide +kernel
theorem hf211_11 : am_find 211 8 11 (am_hh 211) = some (32, 139) := by decide +kernel
theorem hr211_32 : am_hret 211 32 = some 3 := by decide +kernel
theorem k212_31 {g : AG} {M : AM} {O E lev : Nat} {a b c d : Int} (hk : gK g O = 0) (hl : lev ≤ 5) (h : Ok lev 111 0 [aR O] [] g M (fun o g1 M1 => o = .inr E ∧ g1 = am_alloc g 30 0 6 ∧ M1 = M)) : Ok 6 212 0 [aR O, aI 31, aI a, aI b, aI c, aI d] [] g M (fun o g1 M1 => o = .inr E ∧ g1 = am_alloc g 30 0 6 ∧ M1 = M) := by
  refine ok_iloadn (pc' := 1) i212_0 rfl rfl <| ok_tsw (pc' := 372) (off := 371) i212_1 ⟨by decide, by decide⟩ (Or.inr ⟨by decide, rfl⟩) rfl <| ?_
  refine ok_aloadn (pc' := 373) i212_372 rfl rfl <| ?_
  refine ok_cc i212_373 rfl (cl_v o212 m13_126 na111 rfl rfl (bt rfl) (bt rfl) rfl (by rw [hk, o111])) ln111 (pd111 (aR O)) <| (Ok.deep h hl).mono (fun o9 g9 M9 p9 => ?_)
  obtain ⟨rfl, e1, e2⟩ := p9
  exact kt_x hh212 ⟨rfl, e1, e2⟩
theorem k212_0 {g : AG} {M : AM} {O E lev : Nat} {a b c d : Int} (hk : gK g O = 0) (hl : lev ≤ 5) (h : Ok lev 98 0 [aR O, aI a] [] g M (fun o g1 M1 => o = .inr E ∧ g1 = am_alloc g 30 0 6 ∧ M1 = M)) : Ok 6 212 0 [aR O, aI 0, aI a, aI b, aI c, aI d] [] g M (fun o g1 M1 => o = .inr E ∧ g1 = am_alloc g 30 0 6 ∧ M1 = M) := by
  refine ok_iloadn (pc' := 1) i212_0 rfl rfl <| ok_tsw (pc' := 140) (off := 139) i212_1 ⟨by decide, by decide⟩ (Or.inl ⟨by decide, by decide, rfl⟩) rfl <| ?_
  refine ok_aloadn (pc' := 141) i212_140 rfl rfl <| ?_
  refine ok_iloadn (pc' := 142) i212_141 rfl rfl <| ?_
  refine ok_cc i212_142 rfl (cl_v o212 m13_33 na98 rfl rfl (bt rfl) (bt rfl) rfl (by rw [hk, o98])) ln98 (pd98 (aR O) (aI a)) <| (Ok.deep h hl).mono (fun o9 g9 M9 p9 => ?_)
  obtain ⟨rfl, e1, e2⟩ := p9
  exact kt_x hh212 ⟨rfl, e1, e2⟩
theorem k212_25 {g : AG} {M : AM} {O E lev : Nat} {a b c d : Int} (hk : gK g O = 0) (hl : lev ≤ 5) (h : Ok lev 152 0 [aR O] [] g M (fun o g1 M1 => o = .inr E ∧ g1 = am_alloc g 30 0 6 ∧ M1 = M)) : Ok 6 212 0 [aR O, aI 25, aI a, aI b, aI c, aI d] [] g M (fun o g1 M1 => o = .inr E ∧ g1 = am_alloc g 30 0 6 ∧ M1 = M) := by
  refine ok_iloadn (pc' := 1) i212_0 rfl rfl <| ok_tsw (pc' := 331) (off := 330) i212_1 ⟨by decide, by decide⟩ (Or.inl ⟨by decide, by decide, rfl⟩) rfl <| ?_
  refine ok_aloadn (pc' := 332) i212_331 rfl rfl <| ?_
  refine ok_cc i212_332 rfl (cl_v o212 m13_111 na152 rfl rfl (bt rfl) (bt rfl) rfl (by rw [hk, o152])) ln152 (pd152 (aR O)) <| (Ok.deep h hl).mono (fun o9 g9 M9 p9 => ?_)
  obtain ⟨rfl, e1, e2⟩ := p9
  exact kt_x hh212 ⟨rfl, e1, e2⟩
theorem k212_15 {g : AG} {M : AM} {O E lev : Nat} {a b c d : Int} (hk : gK g O = 0) (hl : lev ≤ 5) (h : Ok lev 142 0 [aR O, aI a] [] g M (fun o g1 M1 => o = .inr E ∧ g1 = am_alloc g 30 0 6 ∧ M1 = M)) : Ok 6 212 0 [aR O, aI 15, aI a, aI b, aI c, aI d] [] g M (fun o g1 M1 => o = .inr E ∧ g1 = am_alloc g 30 0 6 ∧ M1 = M) := by
  refine ok_iloadn (pc' := 1) i212_0 rfl rfl <| ok_tsw (pc' := 254) (off := 253) i212_1 ⟨by decide, by decide⟩ (Or.inl ⟨by decide, by decide, rfl⟩) rfl <| ?_
  refine ok_aloadn (pc' := 255) i212_254 rfl rfl <| ?_
  refine ok_iloadn (pc' := 256) i212_255 rfl rfl <| ?_
  refine ok_cc i212_256 rfl (cl_v o212 m13_80 na142 rfl rfl (bt rfl) (bt rfl) rfl (by rw [hk, o142])) ln142 (pd142 (aR O) (aI a)) <| (Ok.deep h hl).mono (fun o9 g9 M9 p9 => ?_)
  obtain ⟨rfl, e1, e2⟩ := p9
  exact kt_x hh212 ⟨rfl, e1, e2⟩
theorem k212_20 {g : AG} {M : AM} {O E lev : Nat} {a b c d : Int} (hk : gK g O = 0) (hl : lev ≤ 5) (h : Ok lev 147 0 [aR O, aI a] [] g M (fun o g1 M1 => o = .inr E ∧ g1 = am_alloc g 30 0 6 ∧ M1 = M)) : Ok 6 212 0 [aR O, aI 20, aI a, aI b, aI c, aI d] [] g M (fun o g1 M1 => o = .inr E ∧ g1 = am_alloc g 30 0 6 ∧ M1 = M) := by
  refine ok_iloadn (pc' := 1) i212_0 rfl rfl <| ok_tsw (pc' := 290) (off := 289) i212_1 ⟨by decide, by decide⟩ (Or.inl ⟨by decide, by decide, rfl⟩) rfl <| ?_
  refine ok_aloadn (pc' := 291) i212_290 rfl rfl <| ?_
  refine ok_iloadn (pc' := 292) i212_291 rfl rfl <| ?_
  refine ok_cc i212_292 rfl (cl_v o212 m13_95 na147 rfl rfl (bt rfl) (bt rfl) rfl (by rw [hk, o147])) ln147 (pd147 (aR O) (aI a)) <| (Ok.deep h hl).mono (fun o9 g9 M9 p9 => ?_)
  obtain ⟨rfl, e1, e2⟩ := p9
  exact kt_x hh212 ⟨rfl, e1, e2⟩
theorem k212_21 {g : AG} {M : AM} {O E lev : Nat} {a b c d : Int} (hk : gK g O = 0) (hl : lev ≤ 5) (h : Ok lev 148 0 [aR O, aI a, aI b, aI c, aI d, aU] [] g M (fun o g1 M1 => o = .inr E ∧ g1 = am_alloc g 30 0 6 ∧ M1 = M)) : Ok 6 212 0 [aR O, aI 21, aI a, aI b, aI c, aI d] [] g M (fun o g1 M1 => o = .inr E ∧ g1 = am_alloc g 30 0 6 ∧ M1 = M) := by
  refine ok_iloadn (pc' := 1) i212_0 rfl rfl <| ok_tsw (pc' := 297) (off := 296) i212_1 ⟨by decide, by decide⟩ (Or.inl ⟨by decide, by decide, rfl⟩) rfl <| ?_
  refine ok_aloadn (pc' := 298) i212_297 rfl rfl <| ?_
  refine ok_iloadn (pc' := 299) i212_298 rfl rfl <| ?_
  refine ok_iloadn (pc' := 300) i212_299 rfl rfl <| ?_
  refine ok_iload (pc' := 302) i212_300 rfl rfl <| ?_
  refine ok_iload (pc' := 304) i212_302 rfl rfl <| ?_
  refine ok_cc i212_304 rfl (cl_v o212 m13_98 na148 rfl rfl (bt rfl) (bt rfl) rfl (by rw [hk, o148])) ln148 (pd148 (aR O) (aI a) (aI b) (aI c) (aI d)) <| (Ok.deep h hl).mono (fun o9 g9 M9 p9 => ?_)
  obtain ⟨rfl, e1, e2⟩ := p9
  exact kt_x hh212 ⟨rfl, e1, e2⟩
theorem k212_22 {g : AG} {M : AM} {O E lev : Nat} {a b c d : Int} (hk : gK g O = 0) (hl : lev ≤ 5) (h : Ok lev 149 0 [aR O, aI a, aU] [] g M (fun o g1 M1 => o = .inr E ∧ g1 = am_alloc g 30 0 6 ∧ M1 = M)) : Ok 6 212 0 [aR O, aI 22, aI a, aI b, aI c, aI d] [] g M (fun o g1 M1 => o = .inr E ∧ g1 = am_alloc g 30 0 6 ∧ M1 = M) := by
  refine ok_iloadn (pc' := 1) i212_0 rfl rfl <| ok_tsw (pc' := 309) (off := 308) i212_1 ⟨by decide, by decide⟩ (Or.inl ⟨by decide, by decide, rfl⟩) rfl <| ?_
  refine ok_aloadn (pc' := 310) i212_309 rfl rfl <| ?_
  refine ok_iloadn (pc' := 311) i212_310 rfl rfl <| ?_
  refine ok_cc i212_311 rfl (cl_v o212 m13_102 na149 rfl rfl (bt rfl) (bt rfl) rfl (by rw [hk, o149])) ln149 (pd149 (aR O) (aI a)) <| (Ok.deep h hl).mono (fun o9 g9 M9 p9 => ?_)
  obtain ⟨rfl, e1, e2⟩ := p9
  exact kt_x hh212 ⟨rfl, e1, e2⟩
theorem k212_24 {g : AG} {M : AM} {O E lev : Nat} {a b c d : Int} (hk : gK g O = 0) (hl : lev ≤ 5) (h : Ok lev 151 0 [aR O, aI a, aI b, aU] [] g M (fun o g1 M1 => o = .inr E ∧ g1 = am_alloc g 30 0 6 ∧ M1 = M)) : Ok 6 212 0 [aR O, aI 24, aI a, aI b, aI c, aI d] [] g M (fun o g1 M1 => o = .inr E ∧ g1 = am_alloc g 30 0 6 ∧ M1 = M) := by
  refine ok_iloadn (pc' := 1) i212_0 rfl rfl <| ok_tsw (pc' := 323) (off := 322) i212_1 ⟨by decide, by decide⟩ (Or.inl ⟨by decide, by decide, rfl⟩) rfl <| ?_
  refine ok_aloadn (pc' := 324) i212_323 rfl rfl <| ?_
  refine ok_iloadn (pc' := 325) i212_324 rfl rfl <| ?_
  refine ok_iloadn (pc' := 326) i212_325 rfl rfl <| ?_
  refine ok_cc i212_326 rfl (cl_v o212 m13_108 na151 rfl rfl (bt rfl) (bt rfl) rfl (by rw [hk, o151])) ln151 (pd151 (aR O) (aI a) (aI b)) <| (Ok.deep h hl).mono (fun o9 g9 M9 p9 => ?_)
  obtain ⟨rfl, e1, e2⟩ := p9
  exact kt_x hh212 ⟨rfl, e1, e2⟩
theorem k212_16 {g : AG} {M : AM} {O E lev : Nat} {a b c d : Int} (hk : gK g O = 0) (hl : lev ≤ 5) (h : Ok lev 143 0 [aR O, aI a, aI b] [] g M (fun o g1 M1 => o = .inr E ∧ g1 = am_alloc g 30 0 6 ∧ M1 = M)) : Ok 6 212 0 [aR O, aI 16, aI a, aI b, aI c, aI d] [] g M (fun o g1 M1 => o = .inr E ∧ g1 = am_alloc g 30 0 6 ∧ M1 = M) := by
  refine ok_iloadn (pc' := 1) i212_0 rfl rfl <| ok_tsw (pc' := 261) (off := 260) i212_1 ⟨by decide, by decide⟩ (Or.inl ⟨by decide, by decide, rfl⟩) rfl <| ?_
  refine ok_aloadn (pc' := 262) i212_261 rfl rfl <| ?_
  refine ok_iloadn (pc' := 263) i212_262 rfl rfl <| ?_
  refine ok_iloadn (pc' := 264) i212_263 rfl rfl <| ?_
  refine ok_cc i212_264 rfl (cl_v o212 m13_83 na143 rfl rfl (bt rfl) (bt rfl) rfl (by rw [hk, o143])) ln143 (pd143 (aR O) (aI a) (aI b)) <| (Ok.deep h hl).mono (fun o9 g9 M9 p9 => ?_)
  obtain ⟨rfl, e1, e2⟩ := p9
  exact kt_x hh212 ⟨rfl, e1, e2⟩
theorem k212_23 {g : AG} {M : AM} {O E lev : Nat} {a b c d : Int} (hk : gK g O = 0) (hl : lev ≤ 5) (h : Ok lev 150 0 [aR O, aI a] [] g M (fun o g1 M1 => o = .inr E ∧ g1 = am_alloc g 30 0 6 ∧ M1 = M)) : Ok 6 212 0 [aR O, aI 23, aI a, aI b, aI c, aI d] [] g M (fun o g1 M1 => o = .inr E ∧ g1 = am_alloc g 30 0 6 ∧ M1 = M) := by
  refine ok_iloadn (pc' := 1) i212_0 rfl rfl <| ok_tsw (pc' := 316) (off := 315) i212_1 ⟨by decide, by decide⟩ (Or.inl ⟨by decide, by decide, rfl⟩) rfl <| ?_
  refine ok_aloadn (pc' := 317) i212_316 rfl rfl <| ?_
  refine ok_iloadn (pc' := 318) i212_317 rfl rfl <| ?_
  refine ok_cc i212_318 rfl (cl_v o212 m13_105 na150 rfl rfl (bt rfl) (bt rfl) rfl (by rw [hk, o150])) ln150 (pd150 (aR O) (aI a)) <| (Ok.deep h hl).mono (fun o9 g9 M9 p9 => ?_)
  obtain ⟨rfl, e1, e2⟩ := p9
  exact kt_x hh212 ⟨rfl, e1, e2⟩
theorem k212_17 {g : AG} {M : AM} {O E lev : Nat} {a b c d : Int} (hk : gK g O = 0) (hl : lev ≤ 5) (h : Ok lev 144 0 [aR O, aI a, aI b] [] g M (fun o g1 M1 => o = .inr E ∧ g1 = am_alloc g 30 0 6 ∧ M1 = M)) : Ok 6 212 0 [aR O, aI 17, aI a, aI b, aI c, aI d] [] g M (fun o g1 M1 => o = .inr E ∧ g1 = am_alloc g 30 0 6 ∧ M1 = M) := by
  refine ok_iloadn (pc' := 1) i212_0 rfl rfl <| ok_tsw (pc' := 269) (off := 268) i212_1 ⟨by decide, by decide⟩ (Or.inl ⟨by decide, by decide, rfl⟩) rfl <| ?_
  refine ok_aloadn (pc' := 270) i212_269 rfl rfl <| ?_
  refine ok_iloadn (pc' := 271) i212_270 rfl rfl <| ?_
  refine ok_iloadn (pc' := 272) i212_271 rfl rfl <| ?_
  refine ok_cc i212_272 rfl (cl_v o212 m13_86 na144 rfl rfl (bt rfl) (bt rfl) rfl (by rw [hk, o144])) ln144 (pd144 (aR O) (aI a) (aI b)) <| (Ok.deep h hl).mono (fun o9 g9 M9 p9 => ?_)
  obtain ⟨rfl, e1, e2⟩ := p9
  exact kt_x hh212 ⟨rfl, e1, e2⟩
theorem k212_4 {g : AG} {M : AM} {O E lev : Nat} {a b c d : Int} (hk : gK g O = 0) (hl : lev ≤ 5) (h : Ok lev 109 0 [aR O, aI a, aI b] [] g M (fun o g1 M1 => o = .inr E ∧ g1 = am_alloc g 30 0 6 ∧ M1 = M)) : Ok 6 212 0 [aR O, aI 4, aI a, aI b, aI c, aI d] [] g M (fun o g1 M1 => o = .inr E ∧ g1 = am_alloc g 30 0 6 ∧ M1 = M) := by
  refine ok_iloadn (pc' := 1) i212_0 rfl rfl <| ok_tsw (pc' := 171) (off := 170) i212_1 ⟨by decide, by decide⟩ (Or.inl ⟨by decide, by decide, rfl⟩) rfl <| ?_
  refine ok_aloadn (pc' := 172) i212_171 rfl rfl <| ?_
  refine ok_iloadn (pc' := 173) i212_172 rfl rfl <| ?_
  refine ok_iloadn (pc' := 174) i212_173 rfl rfl <| ?_
  refine ok_cc i212_174 rfl (cl_v o212 m13_47 na109 rfl rfl (bt rfl) (bt rfl) rfl (by rw [hk, o109])) ln109 (pd109 (aR O) (aI a) (aI b)) <| (Ok.deep h hl).mono (fun o9 g9 M9 p9 => ?_)
  obtain ⟨rfl, e1, e2⟩ := p9
  exact kt_x hh212 ⟨rfl, e1, e2⟩
theorem k212_13 {g : AG} {M : AM} {O E lev : Nat} {a b c d : Int} (hk : gK g O = 0) (hl : lev ≤ 5) (h : Ok lev 138 0 [aR O, aI a, aI b] [] g M (fun o g1 M1 => o = .inr E ∧ g1 = am_alloc g 30 0 6 ∧ M1 = M)) : Ok 6 212 0 [aR O, aI 13, aI a, aI b, aI c, aI d] [] g M (fun o g1 M1 => o = .inr E ∧ g1 = am_alloc g 30 0 6 ∧ M1 = M) := by
  refine ok_iloadn (pc' := 1) i212_0 rfl rfl <| ok_tsw (pc' := 239) (off := 238) i212_1 ⟨by decide, by decide⟩ (Or.inl ⟨by decide, by decide, rfl⟩) rfl <| ?_
  refine ok_aloadn (pc' := 240) i212_239 rfl rfl <| ?_
  refine ok_iloadn (pc' := 241) i212_240 rfl rfl <| ?_
  refine ok_iloadn (pc' := 242) i212_241 rfl rfl <| ?_
  refine ok_cc i212_242 rfl (cl_v o212 m13_74 na138 rfl rfl (bt rfl) (bt rfl) rfl (by rw [hk, o138])) ln138 (pd138 (aR O) (aI a) (aI b)) <| (Ok.deep h hl).mono (fun o9 g9 M9 p9 => ?_)
  obtain ⟨rfl, e1, e2⟩ := p9
  exact kt_x hh212 ⟨rfl, e1, e2⟩
theorem k212_1 {g : AG} {M : AM} {O E lev : Nat} {a b c d : Int} (hk : gK g O = 0) (hl : lev ≤ 5) (h : Ok lev 100 0 [aR O, aI a, aI 1] [] g M (fun o g1 M1 => o = .inr E ∧ g1 = am_alloc g 30 0 6 ∧ M1 = M)) : Ok 6 212 0 [aR O, aI 1, aI a, aI b, aI c, aI d] [] g M (fun o g1 M1 => o = .inr E ∧ g1 = am_alloc g 30 0 6 ∧ M1 = M) := by
  refine ok_iloadn (pc' := 1) i212_0 rfl rfl <| ok_tsw (pc' := 147) (off := 146) i212_1 ⟨by decide, by decide⟩ (Or.inl ⟨by decide, by decide, rfl⟩) rfl <| ?_
  refine ok_aloadn (pc' := 148) i212_147 rfl rfl <| ?_
  refine ok_iloadn (pc' := 149) i212_148 rfl rfl <| ?_
  refine ok_iconst (pc' := 150) i212_149 rfl <| ?_
  refine ok_cc i212_150 rfl (cl_v o212 m13_36 na100 rfl rfl (bt rfl) (bt rfl) rfl (by rw [hk, o100])) ln100 (pd100 (aR O) (aI a) (aI 1)) <| (Ok.deep h hl).mono (fun o9 g9 M9 p9 => ?_)
  obtain ⟨rfl, e1, e2⟩ := p9
  exact kt_x hh212 ⟨rfl, e1, e2⟩
theorem k212_2 {g : AG} {M : AM} {O E lev : Nat} {a b c d : Int} (hk : gK g O = 0) (hl : lev ≤ 5) (h : Ok lev 102 0 [aR O, aI a, aI b] [] g M (fun o g1 M1 => o = .inr E ∧ g1 = am_alloc g 30 0 6 ∧ M1 = M)) : Ok 6 212 0 [aR O, aI 2, aI a, aI b, aI c, aI d] [] g M (fun o g1 M1 => o = .inr E ∧ g1 = am_alloc g 30 0 6 ∧ M1 = M) := by
  refine ok_iloadn (pc' := 1) i212_0 rfl rfl <| ok_tsw (pc' := 155) (off := 154) i212_1 ⟨by decide, by decide⟩ (Or.inl ⟨by decide, by decide, rfl⟩) rfl <| ?_
  refine ok_aloadn (pc' := 156) i212_155 rfl rfl <| ?_
  refine ok_iloadn (pc' := 157) i212_156 rfl rfl <| ?_
  refine ok_iloadn (pc' := 158) i212_157 rfl rfl <| ?_
  refine ok_cc i212_158 rfl (cl_v o212 m13_40 na102 rfl rfl (bt rfl) (bt rfl) rfl (by rw [hk, o102])) ln102 (pd102 (aR O) (aI a) (aI b)) <| (Ok.deep h hl).mono (fun o9 g9 M9 p9 => ?_)
  obtain ⟨rfl, e1, e2⟩ := p9
  exact kt_x hh212 ⟨rfl, e1, e2⟩
theorem k212_3 {g : AG} {M : AM} {O E lev : Nat} {a b c d : Int} (hk : gK g O = 0) (hl : lev ≤ 5) (h : Ok lev 105 0 [aR O, aI a, aI b] [] g M (fun o g1 M1 => o = .inr E ∧ g1 = am_alloc g 30 0 6 ∧ M1 = M)) : Ok 6 212 0 [aR O, aI 3, aI a, aI b, aI c, aI d] [] g M (fun o g1 M1 => o = .inr E ∧ g1 = am_alloc g 30 0 6 ∧ M1 = M) := by
  refine ok_iloadn (pc' := 1) i212_0 rfl rfl <| ok_tsw (pc' := 163) (off := 162) i212_1 ⟨by decide, by decide⟩ (Or.inl ⟨by decide, by decide, rfl⟩) rfl <| ?_
  refine ok_aloadn (pc' := 164) i212_163 rfl rfl <| ?_
  refine ok_iloadn (pc' := 165) i212_164 rfl rfl <| ?_
  refine ok_iloadn (pc' := 166) i212_165 rfl rfl <| ?_
  refine ok_cc i212_166 rfl (cl_v o212 m13_44 na105 rfl rfl (bt rfl) (bt rfl) rfl (by rw [hk, o105])) ln105 (pd105 (aR O) (aI a) (aI b)) <| (Ok.deep h hl).mono (fun o9 g9 M9 p9 => ?_)
  obtain ⟨rfl, e1, e2⟩ := p9
  exact kt_x hh212 ⟨rfl, e1, e2⟩
theorem k212_5 {g : AG} {M : AM} {O E lev : Nat} {a b c d : Int} (hk : gK g O = 0) (hl : lev ≤ 5) (h : Ok lev 112 0 [aR O, aI a] [] g M (fun o g1 M1 => o = .inr E ∧ g1 = am_alloc g 30 0 6 ∧ M1 = M)) : Ok 6 212 0 [aR O, aI 5, aI a, aI b, aI c, aI d] [] g M (fun o g1 M1 => o = .inr E ∧ g1 = am_alloc g 30 0 6 ∧ M1 = M) := by
  refine ok_iloadn (pc' := 1) i212_0 rfl rfl <| ok_tsw (pc' := 179) (off := 178) i212_1 ⟨by decide, by decide⟩ (Or.inl ⟨by decide, by decide, rfl⟩) rfl <| ?_
  refine ok_aloadn (pc' := 180) i212_179 rfl rfl <| ?_
  refine ok_iloadn (pc' := 181) i212_180 rfl rfl <| ?_
  refine ok_cc i212_181 rfl (cl_v o212 m13_50 na112 rfl rfl (bt rfl) (bt rfl) rfl (by rw [hk, o112])) ln112 (pd112 (aR O) (aI a)) <| (Ok.deep h hl).mono (fun o9 g9 M9 p9 => ?_)
  obtain ⟨rfl, e1, e2⟩ := p9
  exact kt_x hh212 ⟨rfl, e1, e2⟩
theorem k212_7 {g : AG} {M : AM} {O E lev : Nat} {a b c d : Int} (hk : gK g O = 0) (hl : lev ≤ 5) (h : Ok lev 116 0 [aR O, aI a, aI b] [] g M (fun o g1 M1 => o = .inr E ∧ g1 = am_alloc g 30 0 6 ∧ M1 = M)) : Ok 6 212 0 [aR O, aI 7, aI a, aI b, aI c, aI d] [] g M (fun o g1 M1 => o = .inr E ∧ g1 = am_alloc g 30 0 6 ∧ M1 = M) := by
  refine ok_iloadn (pc' := 1) i212_0 rfl rfl <| ok_tsw (pc' := 194) (off := 193) i212_1 ⟨by decide, by decide⟩ (Or.inl ⟨by decide, by decide, rfl⟩) rfl <| ?_
  refine ok_aloadn (pc' := 195) i212_194 rfl rfl <| ?_
  refine ok_iloadn (pc' := 196) i212_195 rfl rfl <| ?_
  refine ok_iloadn (pc' := 197) i212_196 rfl rfl <| ?_
  refine ok_cc i212_197 rfl (cl_v o212 m13_56 na116 rfl rfl (bt rfl) (bt rfl) rfl (by rw [hk, o116])) ln116 (pd116 (aR O) (aI a) (aI b)) <| (Ok.deep h hl).mono (fun o9 g9 M9 p9 => ?_)
  obtain ⟨rfl, e1, e2⟩ := p9
  exact kt_x hh212 ⟨rfl, e1, e2⟩
theorem k212_12 {g : AG} {M : AM} {O E lev : Nat} {a b c d : Int} (hk : gK g O = 0) (hl : lev ≤ 5) (h : Ok lev 135 0 [aR O, aI a] [] g M (fun o g1 M1 => o = .inr E ∧ g1 = am_alloc g 30 0 6 ∧ M1 = M)) : Ok 6 212 0 [aR O, aI 12, aI a, aI b, aI c, aI d] [] g M (fun o g1 M1 => o = .inr E ∧ g1 = am_alloc g 30 0 6 ∧ M1 = M) := by
  refine ok_iloadn (pc' := 1) i212_0 rfl rfl <| ok_tsw (pc' := 232) (off := 231) i212_1 ⟨by decide, by decide⟩ (Or.inl ⟨by decide, by decide, rfl⟩) rfl <| ?_
  refine ok_aloadn (pc' := 233) i212_232 rfl rfl <| ?_
  refine ok_iloadn (pc' := 234) i212_233 rfl rfl <| ?_
  refine ok_cc i212_234 rfl (cl_v o212 m13_71 na135 rfl rfl (bt rfl) (bt rfl) rfl (by rw [hk, o135])) ln135 (pd135 (aR O) (aI a)) <| (Ok.deep h hl).mono (fun o9 g9 M9 p9 => ?_)
  obtain ⟨rfl, e1, e2⟩ := p9
  exact kt_x hh212 ⟨rfl, e1, e2⟩
theorem k212_30 {g : AG} {M : AM} {O E lev : Nat} {a b c d : Int} (hk : gK g O = 0) (hl : lev ≤ 5) (h : Ok lev 110 0 [aR O, aI a] [] g M (fun o g1 M1 => o = .inr E ∧ g1 = am_alloc g 30 0 6 ∧ M1 = M)) : Ok 6 212 0 [aR O, aI 30, aI a, aI b, aI c, aI d] [] g M (fun o g1 M1 => o = .inr E ∧ g1 = am_alloc g 30 0 6 ∧ M1 = M) := by
  refine ok_iloadn (pc' := 1) i212_0 rfl rfl <| ok_tsw (pc' := 365) (off := 364) i212_1 ⟨by decide, by decide⟩ (Or.inl ⟨by decide, by decide, rfl⟩) rfl <| ?_
  refine ok_aloadn (pc' := 366) i212_365 rfl rfl <| ?_
  refine ok_iloadn (pc' := 367) i212_366 rfl rfl <| ?_
  refine ok_cc i212_367 rfl (cl_v o212 m13_123 na110 rfl rfl (bt rfl) (bt rfl) rfl (by rw [hk, o110])) ln110 (pd110 (aR O) (aI a)) <| (Ok.deep h hl).mono (fun o9 g9 M9 p9 => ?_)
  obtain ⟨rfl, e1, e2⟩ := p9
  exact kt_x hh212 ⟨rfl, e1, e2⟩
theorem k212_18 {g : AG} {M : AM} {O E lev : Nat} {a b c d : Int} (hk : gK g O = 0) (hl : lev ≤ 5) (h : Ok lev 145 0 [aR O, aI a] [] g M (fun o g1 M1 => o = .inr E ∧ g1 = am_alloc g 30 0 6 ∧ M1 = M)) : Ok 6 212 0 [aR O, aI 18, aI a, aI b, aI c, aI d] [] g M (fun o g1 M1 => o = .inr E ∧ g1 = am_alloc g 30 0 6 ∧ M1 = M) := by
  refine ok_iloadn (pc' := 1) i212_0 rfl rfl <| ok_tsw (pc' := 277) (off := 276) i212_1 ⟨by decide, by decide⟩ (Or.inl ⟨by decide, by decide, rfl⟩) rfl <| ?_
  refine ok_aloadn (pc' := 278) i212_277 rfl rfl <| ?_
  refine ok_iloadn (pc' := 279) i212_278 rfl rfl <| ?_
  refine ok_cc i212_279 rfl (cl_v o212 m13_89 na145 rfl rfl (bt rfl) (bt rfl) rfl (by rw [hk, o145])) ln145 (pd145 (aR O) (aI a)) <| (Ok.deep h hl).mono (fun o9 g9 M9 p9 => ?_)
  obtain ⟨rfl, e1, e2⟩ := p9
  exact kt_x hh212 ⟨rfl, e1, e2⟩
theorem t211_1 {g : AG} {M : AM} {O : Nat} {w a b c d : Int} (h : Ok 6 212 0 [aR O, aI w, aI a, aI b, aI c, aI d] [] g M (fun o g1 M1 => o = .inr 12 ∧ g1 = am_alloc g 30 0 6 ∧ M1 = M)) : Ok 7 211 0 [aR O, aI w, aI a, aI b, aI c, aI d, aU] [] g M (fun o g1 M1 => o = .inl (some (aI 1)) ∧ g1 = am_alloc g 30 0 6 ∧ M1 = M) := by
  refine ok_aloadn (pc' := 1) i211_0 rfl rfl <| ok_iloadn (pc' := 2) i211_1 rfl rfl <| ok_iloadn (pc' := 3) i211_2 rfl rfl <| ok_iloadn (pc' := 4) i211_3 rfl rfl <| ok_iload (pc' := 6) i211_4 rfl rfl <| ok_iload (pc' := 8) i211_6 rfl rfl <| ?_
  refine ok_cc i211_8 rfl (cl_s o211 m13_129 na212 rfl rfl (bt rfl) (bt rfl) rfl) ln212 (pd212 (aR O) (aI w) (aI a) (aI b) (aI c) (aI d)) <| h.mono (fun o9 g9 M9 p9 => ?_)
  obtain ⟨rfl, e1, e2⟩ := p9
  exact kt_h hn211 hf211_12 hr211_24 ⟨rfl, e1, e2⟩
theorem t211_2 {g : AG} {M : AM} {O : Nat} {w a b c d : Int} (h : Ok 6 212 0 [aR O, aI w, aI a, aI b, aI c, aI d] [] g M (fun o g1 M1 => o = .inr 10 ∧ g1 = am_alloc g 30 0 6 ∧ M1 = M)) : Ok 7 211 0 [aR O, aI w, aI a, aI b, aI c, aI d, aU] [] g M (fun o g1 M1 => o = .inl (some (aI 2)) ∧ g1 = am_alloc g 30 0 6 ∧ M1 = M) := by
  refine ok_aloadn (pc' := 1) i211_0 rfl rfl <| ok_iloadn (pc' := 2) i211_1 rfl rfl <| ok_iloadn (pc' := 3) i211_2 rfl rfl <| ok_iloadn (pc' := 4) i211_3 rfl rfl <| ok_iload (pc' := 6) i211_4 rfl rfl <| ok_iload (pc' := 8) i211_6 rfl rfl <| ?_
  refine ok_cc i211_8 rfl (cl_s o211 m13_129 na212 rfl rfl (bt rfl) (bt rfl) rfl) ln212 (pd212 (aR O) (aI w) (aI a) (aI b) (aI c) (aI d)) <| h.mono (fun o9 g9 M9 p9 => ?_)
  obtain ⟨rfl, e1, e2⟩ := p9
  exact kt_h hn211 hf211_10 hr211_28 ⟨rfl, e1, e2⟩
theorem t211_3 {g : AG} {M : AM} {O : Nat} {w a b c d : Int} (h : Ok 6 212 0 [aR O, aI w, aI a, aI b, aI c, aI d] [] g M (fun o g1 M1 => o = .inr 11 ∧ g1 = am_alloc g 30 0 6 ∧ M1 = M)) : Ok 7 211 0 [aR O, aI w, aI a, aI b, aI c, aI d, aU] [] g M (fun o g1 M1 => o = .inl (some (aI 3)) ∧ g1 = am_alloc g 30 0 6 ∧ M1 = M) := by
  refine ok_aloadn (pc' := 1) i211_0 rfl rfl <| ok_iloadn (pc' := 2) i211_1 rfl rfl <| ok_iloadn (pc' := 3) i211_2 rfl rfl <| ok_iloadn (pc' := 4) i211_3 rfl rfl <| ok_iload (pc' := 6) i211_4 rfl rfl <| ok_iload (pc' := 8) i211_6 rfl rfl <| ?_
  refine ok_cc i211_8 rfl (cl_s o211 m13_129 na212 rfl rfl (bt rfl) (bt rfl) rfl) ln212 (pd212 (aR O) (aI w) (aI a) (aI b) (aI c) (aI d)) <| h.mono (fun o9 g9 M9 p9 => ?_)
  obtain ⟨rfl, e1, e2⟩ := p9
  exact kt_h hn211 hf211_11 hr211_32 ⟨rfl, e1, e2⟩
