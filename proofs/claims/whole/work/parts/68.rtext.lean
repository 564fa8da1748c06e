/-! THE LINES OF A TEXT: the reference (by program, wip/gen) -/
/-! THE LINES OF A TEXT: the reference -/
def LPe (M9 : AM) (O : Nat) : LR → Prop
  | .inl e => M9 O 22 = e.1 ∧ M9 O 23 = e.2 ∧ 1 ≤ e.1 ∧ e.1 ≤ 4
  | .inr x => M9 O 22 = 0 ∧ RepR M9 O x.2.1 x.2.2
theorem WdsR.fr {g : AG} {M M9 : AM} (h : WdsR g M) (e : ∀ c : Nat, c < 40 → M9 c = M c) : WdsR g M9 := by
  obtain ⟨h0, h1, h2, h3, h4, h5, h6⟩ := h
  exact ⟨h0.fr (e _ (by decide)), h1.fr (e _ (by decide)), h2.fr (e _ (by decide)), h3.fr (e _ (by decide)), h4.fr (e _ (by decide)), h5.fr (e _ (by decide)), h6.fr (e _ (by decide))⟩
theorem o166 : am_oc 166 = 9 := by decide +kernel
theorem rt166 : am_rt 166 = none := by decide +kernel
theorem m9_190 : am_mlk 9 190 0 178 = true := by decide +kernel
theorem na178 : am_na 178 = 0 := by decide +kernel
theorem nl178 : am_nL 178 = 1 := by decide +kernel
theorem pd178 : ∀ a0 : AV, am_pad 178 [a0] = [a0] := by intros; unfold am_pad; rw [nl178]; rfl
theorem ln178 : 1 ≤ am_nL 178 := by rw [nl178]; decide
theorem w166_b {g : AG} {M : AM} {O : Nat} {w2 : AV} {n c so : Int} (hSO : ShModel g O) (j22 : M O 22 = c) (hc : 1 ≤ c ∧ c ≤ 4) (j20 : M O 20 = so) (hso : 0 ≤ so ∧ so ≤ 4) :
    Ok 6 166 101 [aR O, aI n, w2] [] g M (Rt none g (fun M9 => M9 = M)) := by
  refine ok_aloadn (pc' := 102) i166_101 rfl rfl <| ok_getfi (v := c) (pc' := 105) i166_102 o166 gi9_106 (ShModel_k0 hSO) j22 rfl <| ?_
  refine ok_zne (pc1 := 127) (pc2 := 108) i166_105 (by omega) rfl rfl (fun h21 => ?_) (fun h9 => by exfalso; omega)
  refine ok_aloadn (pc' := 128) i166_127 rfl rfl <| ok_aloadn (pc' := 129) i166_128 rfl rfl <| ok_getfi (v := so) (pc' := 132) i166_129 o166 gi9_93 (ShModel_k0 hSO) j20 rfl <| ?_
  refine ok_zeq (pc1 := 139) (pc2 := 135) i166_132 (by omega) rfl rfl (fun h22 => ?_) (fun h22 => ?_)
  · refine ok_iconst (pc' := 140) i166_139 rfl <| ok_iconst (pc' := 141) i166_140 rfl <| ok_cc i166_141 rfl (cl_v o166 m9_133 na173 rfl rfl (bt rfl) (bt rfl) rfl (by rw [ShModel_k0 hSO, o173])) ln173 (pd173 (aR O) (aI 0) (aI 1)) <| ok_iloadn (pc' := 1) i173_0 rfl rfl <| ok_kz1 (pc1 := 9) (pc2 := 4) i173_1 (by decide) rfl rfl <| ok_vret i173_9 rt173 <| kt_0 (pc' := 144) rfl <| ok_vret i166_144 rt166 <| ?_
    exact ⟨rfl, rfl, rfl⟩
  · refine ok_iconst (pc' := 136) i166_135 rfl <| ok_goto (pc' := 140) i166_136 rfl <| ok_iconst (pc' := 141) i166_140 rfl <| ok_cc i166_141 rfl (cl_v o166 m9_133 na173 rfl rfl (bt rfl) (bt rfl) rfl (by rw [ShModel_k0 hSO, o173])) ln173 (pd173 (aR O) (aI 1) (aI 1)) <| ok_iloadn (pc' := 1) i173_0 rfl rfl <| ok_kz0 (pc1 := 9) (pc2 := 4) i173_1 (by decide) rfl rfl <| ok_aloadn (pc' := 5) i173_4 rfl rfl <| ok_iloadn (pc' := 6) i173_5 rfl rfl <| ?_
    refine ok_cc i173_6 rfl (cl_v o173 m9_112 na174 rfl rfl (bt rfl) (bt rfl) rfl (by rw [ShModel_k0 hSO, o174])) ln174 (pd174 (aR O) (aI 1)) <| ok_aloadn (pc' := 1) i174_0 rfl rfl <| ok_getfi (v := c) (pc' := 4) i174_1 o174 gi9_106 (ShModel_k0 hSO) j22 rfl <| ?_
    refine ok_zne (pc1 := 20) (pc2 := 7) i174_4 (by omega) rfl rfl (fun h23 => ?_) (fun h9 => by exfalso; omega)
    refine ok_vret i174_20 rt174 <| kt_0 (pc' := 9) rfl <| ok_vret i173_9 rt173 <| kt_0 (pc' := 144) rfl <| ok_vret i166_144 rt166 <| ?_
    exact ⟨rfl, rfl, rfl⟩
theorem w166_c {g : AG} {M : AM} {O : Nat} {w2 : AV} {n so p : Int} (hSO : ShModel g O) (j22 : M O 22 = 0) (j20 : M O 20 = so) (hso : 1 ≤ so ∧ so ≤ 4 ∧ so ≠ 3) (j19 : M O 19 = p) :
    Ok 6 166 101 [aR O, aI n, w2] [] g M (Rt none g (fun M9 => M9 = up2 (up2 M O 22 1) O 23 p)) := by
  refine ok_aloadn (pc' := 102) i166_101 rfl rfl <| ok_getfi (v := 0) (pc' := 105) i166_102 o166 gi9_106 (ShModel_k0 hSO) j22 rfl <| ok_kz0 (pc1 := 127) (pc2 := 108) i166_105 (by decide) rfl rfl <| ok_aloadn (pc' := 109) i166_108 rfl rfl <| ok_getfi (v := so) (pc' := 112) i166_109 o166 gi9_93 (ShModel_k0 hSO) j20 rfl <| ok_iconst (pc' := 113) i166_112 rfl <| ?_
  refine ok_cne (pc1 := 127) (pc2 := 116) i166_113 (by omega) rfl rfl (fun h21 => ?_) (fun h9 => by exfalso; omega)
  refine ok_aloadn (pc' := 128) i166_127 rfl rfl <| ok_aloadn (pc' := 129) i166_128 rfl rfl <| ok_getfi (v := so) (pc' := 132) i166_129 o166 gi9_93 (ShModel_k0 hSO) j20 rfl <| ?_
  refine ok_zeq (pc1 := 139) (pc2 := 135) i166_132 (by omega) rfl rfl (fun h9 => by exfalso; omega) (fun h22 => ?_)
  refine ok_iconst (pc' := 136) i166_135 rfl <| ok_goto (pc' := 140) i166_136 rfl <| ok_iconst (pc' := 141) i166_140 rfl <| ok_cc i166_141 rfl (cl_v o166 m9_133 na173 rfl rfl (bt rfl) (bt rfl) rfl (by rw [ShModel_k0 hSO, o173])) ln173 (pd173 (aR O) (aI 1) (aI 1)) <| ok_iloadn (pc' := 1) i173_0 rfl rfl <| ok_kz0 (pc1 := 9) (pc2 := 4) i173_1 (by decide) rfl rfl <| ok_aloadn (pc' := 5) i173_4 rfl rfl <| ok_iloadn (pc' := 6) i173_5 rfl rfl <| ?_
  refine ok_cc i173_6 rfl (cl_v o173 m9_112 na174 rfl rfl (bt rfl) (bt rfl) rfl (by rw [ShModel_k0 hSO, o174])) ln174 (pd174 (aR O) (aI 1)) <| ok_aloadn (pc' := 1) i174_0 rfl rfl <| ok_getfi (v := 0) (pc' := 4) i174_1 o174 gi9_106 (ShModel_k0 hSO) j22 rfl <| ok_kz0 (pc1 := 20) (pc2 := 7) i174_4 (by decide) rfl rfl <| ok_aloadn (pc' := 8) i174_7 rfl rfl <| ok_iloadn (pc' := 9) i174_8 rfl rfl <| ok_putfj (kk := 22) (pc' := 12) i174_9 o174 pi174_106 (ShModel_k0 hSO) rfl rfl <| ok_aloadn (pc' := 13) i174_12 rfl rfl <| ?_
  refine ok_aloadn (pc' := 14) i174_13 rfl rfl <| ok_getfi (v := p) (pc' := 17) i174_14 o174 gi9_90 (ShModel_k0 hSO) (rd_ni (by decide) j19) rfl <| ok_putfj (kk := 23) (pc' := 20) i174_17 o174 pi174_109 (ShModel_k0 hSO) rfl rfl <| ok_vret i174_20 rt174 <| kt_0 (pc' := 9) rfl <| ok_vret i173_9 rt173 <| kt_0 (pc' := 144) rfl <| ok_vret i166_144 rt166 <| ?_
  exact ⟨rfl, rfl, rfl⟩
theorem w166_d {g : AG} {M : AM} {O : Nat} {w2 : AV} {n : Int} (hSO : ShModel g O) (j22 : M O 22 = 0) (j20 : M O 20 = 0) :
    Ok 6 166 101 [aR O, aI n, w2] [] g M (Rt none g (fun M9 => M9 = M)) := by
  refine ok_aloadn (pc' := 102) i166_101 rfl rfl <| ok_getfi (v := 0) (pc' := 105) i166_102 o166 gi9_106 (ShModel_k0 hSO) j22 rfl <| ok_kz0 (pc1 := 127) (pc2 := 108) i166_105 (by decide) rfl rfl <| ok_aloadn (pc' := 109) i166_108 rfl rfl <| ok_getfi (v := 0) (pc' := 112) i166_109 o166 gi9_93 (ShModel_k0 hSO) j20 rfl <| ok_iconst (pc' := 113) i166_112 rfl <| ok_kc1 (pc1 := 127) (pc2 := 116) i166_113 (by decide) rfl rfl <| ok_aloadn (pc' := 128) i166_127 rfl rfl <| ?_
  refine ok_aloadn (pc' := 129) i166_128 rfl rfl <| ok_getfi (v := 0) (pc' := 132) i166_129 o166 gi9_93 (ShModel_k0 hSO) j20 rfl <| ok_kz1 (pc1 := 139) (pc2 := 135) i166_132 (by decide) rfl rfl <| ok_iconst (pc' := 140) i166_139 rfl <| ok_iconst (pc' := 141) i166_140 rfl <| ok_cc i166_141 rfl (cl_v o166 m9_133 na173 rfl rfl (bt rfl) (bt rfl) rfl (by rw [ShModel_k0 hSO, o173])) ln173 (pd173 (aR O) (aI 0) (aI 1)) <| ok_iloadn (pc' := 1) i173_0 rfl rfl <| ok_kz1 (pc1 := 9) (pc2 := 4) i173_1 (by decide) rfl rfl <| ?_
  refine ok_vret i173_9 rt173 <| kt_0 (pc' := 144) rfl <| ok_vret i166_144 rt166 <| ?_
  exact ⟨rfl, rfl, rfl⟩
theorem w166_w {g : AG} {M : AM} {O : Nat} {w2 : AV} {n c : Int} (hSO : ShModel g O) (j22 : M O 22 = c) (hc : 1 ≤ c ∧ c ≤ 4) :
    Ok 6 166 101 [aR O, aI n, w2] [] g M (Rt none g (fun M9 => M9 = M)) := by
  refine ok_aloadn (pc' := 102) i166_101 rfl rfl <| ok_getfi (v := c) (pc' := 105) i166_102 o166 gi9_106 (ShModel_k0 hSO) j22 rfl <| ?_
  refine ok_zne (pc1 := 127) (pc2 := 108) i166_105 (by omega) rfl rfl (fun h21 => ?_) (fun h9 => by exfalso; omega)
  refine ok_aloadn (pc' := 128) i166_127 rfl rfl <| ok_aloadn (pc' := 129) i166_128 rfl rfl <| ok_getfi (v := (M O 20)) (pc' := 132) i166_129 o166 gi9_93 (ShModel_k0 hSO) rfl rfl <| ?_
  refine ok_zeqw (pc1 := 139) (pc2 := 135) i166_132 rfl rfl (fun h22 => ?_) (fun h22 => ?_)
  · refine ok_iconst (pc' := 140) i166_139 rfl <| ok_iconst (pc' := 141) i166_140 rfl <| ok_cc i166_141 rfl (cl_v o166 m9_133 na173 rfl rfl (bt rfl) (bt rfl) rfl (by rw [ShModel_k0 hSO, o173])) ln173 (pd173 (aR O) (aI 0) (aI 1)) <| ok_iloadn (pc' := 1) i173_0 rfl rfl <| ok_kz1 (pc1 := 9) (pc2 := 4) i173_1 (by decide) rfl rfl <| ok_vret i173_9 rt173 <| kt_0 (pc' := 144) rfl <| ok_vret i166_144 rt166 <| ?_
    exact ⟨rfl, rfl, rfl⟩
  · refine ok_iconst (pc' := 136) i166_135 rfl <| ok_goto (pc' := 140) i166_136 rfl <| ok_iconst (pc' := 141) i166_140 rfl <| ok_cc i166_141 rfl (cl_v o166 m9_133 na173 rfl rfl (bt rfl) (bt rfl) rfl (by rw [ShModel_k0 hSO, o173])) ln173 (pd173 (aR O) (aI 1) (aI 1)) <| ok_iloadn (pc' := 1) i173_0 rfl rfl <| ok_kz0 (pc1 := 9) (pc2 := 4) i173_1 (by decide) rfl rfl <| ok_aloadn (pc' := 5) i173_4 rfl rfl <| ok_iloadn (pc' := 6) i173_5 rfl rfl <| ?_
    refine ok_cc i173_6 rfl (cl_v o173 m9_112 na174 rfl rfl (bt rfl) (bt rfl) rfl (by rw [ShModel_k0 hSO, o174])) ln174 (pd174 (aR O) (aI 1)) <| ok_aloadn (pc' := 1) i174_0 rfl rfl <| ok_getfi (v := c) (pc' := 4) i174_1 o174 gi9_106 (ShModel_k0 hSO) j22 rfl <| ?_
    refine ok_zne (pc1 := 20) (pc2 := 7) i174_4 (by omega) rfl rfl (fun h23 => ?_) (fun h9 => by exfalso; omega)
    refine ok_vret i174_20 rt174 <| kt_0 (pc' := 9) rfl <| ok_vret i173_9 rt173 <| kt_0 (pc' := 144) rfl <| ok_vret i166_144 rt166 <| ?_
    exact ⟨rfl, rfl, rfl⟩
theorem w166_101 {g : AG} {M : AM} {O : Nat} {by_ q s : Int → Int} {n a : Int} {k0 : Nat} {R : LR} {w2 : AV} (hSO : ShModel g O) (hU : InU M O by_) (hn : 0 ≤ n ∧ n ≤ 700) (h40 : 40 ≤ O) (hWD : WdsR g M) (hw2 : am_cat w2 = 1) (hI : (fun (x : Nat × Int × (Int → Int) × (Int → Int)) (M9 : AM) => (n - x.2.1 < x.1) ∧ (0 ≤ x.2.1 ∧ x.2.1 ≤ n) ∧ TokAt M9 O by_ n x.2.1 ∧ M9 O 17 = n ∧ M9 O 22 = 0 ∧ RepR M9 O x.2.2.1 x.2.2.2 ∧ Val 0 x.2.2.1 x.2.2.2 ∧ ZR x.2.2.2 ∧ x.2.2.2 3 ≤ 24 ∧ x.2.2.2 4 ≤ 12 ∧ (∀ y : Int, y < 18 → M9 O y = M O y) ∧ (∀ y : Int, 30 < y → M9 O y = M O y) ∧ (∀ c, c ≠ O → (c < O + 9 ∨ O + 13 < c) → M9 c = M c) ∧ txtN by_ n x.1 x.2.1 x.2.2.1 x.2.2.2 = R) (k0, a, q, s) M) :
    Ok 6 166 101 [aR O, aI n, w2] [] g M (Rt none g (fun M9 => LPe M9 O R ∧ (∀ y : Int, y < 18 → M9 O y = M O y) ∧ (∀ y : Int, 30 < y → M9 O y = M O y) ∧ ∀ c, c ≠ O → (c < O + 9 ∨ O + 13 < c) → M9 c = M c)) := by
  refine ok_while (σ := Nat × Int × (Int → Int) × (Int → Int)) (fun x ls M9 => (n - x.2.1 < x.1) ∧ (0 ≤ x.2.1 ∧ x.2.1 ≤ n) ∧ TokAt M9 O by_ n x.2.1 ∧ M9 O 17 = n ∧ M9 O 22 = 0 ∧ RepR M9 O x.2.2.1 x.2.2.2 ∧ Val 0 x.2.2.1 x.2.2.2 ∧ ZR x.2.2.2 ∧ x.2.2.2 3 ≤ 24 ∧ x.2.2.2 4 ≤ 12 ∧ (∀ y : Int, y < 18 → M9 O y = M O y) ∧ (∀ y : Int, 30 < y → M9 O y = M O y) ∧ (∀ c, c ≠ O → (c < O + 9 ∨ O + 13 < c) → M9 c = M c) ∧ txtN by_ n x.1 x.2.1 x.2.2.1 x.2.2.2 = R ∧ ∃ w2 : AV, am_cat w2 = 1 ∧ ls = [aR O, aI n, w2]) (fun x => x.1) ?_ (k0, a, q, s) _ M ?_
  · rintro ⟨k, ap, qp, sp⟩ ls M9 ⟨hk, hap, hT9, h917, h922, hR9, hV9, hZR9, h3, h4, hYl9, hYh9, hC9, hR, w2, hw2, rfl⟩ ih
    dsimp only at *
    cases k with
    | zero => omega
    | succ k =>
      have hU9 : InU M9 O by_ := fun i h0 h1 => by rw [hC9 _ (by omega) (by omega)]; exact hU i h0 h1
      have hWD9 : WdsR g M9 := WdsR.fr hWD (fun c hc => hC9 c (by omega) (by omega))
      have rap := en_rg (by_ := by_) (n := n) (a := ap) (by omega)
      have rap : (ap ≤ (stS by_ n ap) ∧ (stS by_ n ap) ≤ n ∧ (stS by_ n ap) ≤ (enS by_ n ap) ∧ (enS by_ n ap) ≤ n) ∧ 0 ≤ (tyS by_ n ap) ∧ (tyS by_ n ap) ≤ 4 := ⟨⟨rap.1, rap.2.1, rap.2.2.1, rap.2.2.2.1⟩, rap.2.2.2.2.2⟩
      have rsr := (srt_f (ty := tyS by_ n ap) (by omega)).1
      refine ok_aloadn (pc' := 102) i166_101 rfl rfl <| ok_getfi (v := 0) (pc' := 105) i166_102 o166 gi9_106 (ShModel_k0 hSO) h922 rfl <| ok_kz0 (pc1 := 127) (pc2 := 108) i166_105 (by decide) rfl rfl <| ok_aloadn (pc' := 109) i166_108 rfl rfl <| ok_getfi (v := (srt (tyS by_ n ap))) (pc' := 112) i166_109 o166 gi9_93 (ShModel_k0 hSO) hT9.2.2.1 rfl <| ok_iconst (pc' := 113) i166_112 rfl <| ?_
      refine ok_cne (pc1 := 127) (pc2 := 116) i166_113 (by omega) rfl rfl (fun h21 => ?_) (fun h21 => ?_)
      · refine ok_aloadn (pc' := 128) i166_127 rfl rfl <| ok_aloadn (pc' := 129) i166_128 rfl rfl <| ok_getfi (v := (srt (tyS by_ n ap))) (pc' := 132) i166_129 o166 gi9_93 (ShModel_k0 hSO) hT9.2.2.1 rfl <| ?_
        refine ok_zeq (pc1 := 139) (pc2 := 135) i166_132 (by omega) rfl rfl (fun h22 => ?_) (fun h22 => ?_)
        · refine ok_iconst (pc' := 140) i166_139 rfl <| ok_iconst (pc' := 141) i166_140 rfl <| ok_cc i166_141 rfl (cl_v o166 m9_133 na173 rfl rfl (bt rfl) (bt rfl) rfl (by rw [ShModel_k0 hSO, o173])) ln173 (pd173 (aR O) (aI 0) (aI 1)) <| ok_iloadn (pc' := 1) i173_0 rfl rfl <| ok_kz1 (pc1 := 9) (pc2 := 4) i173_1 (by decide) rfl rfl <| ok_vret i173_9 rt173 <| kt_0 (pc' := 144) rfl <| ok_vret i166_144 rt166 <| ?_
          have ht2 : tyS by_ n ap ≠ 2 := fun h9 => by have := (srt_f (ty := tyS by_ n ap) (by omega)).2.2.2.1.mpr h9; omega
          have ht3 : tyS by_ n ap = 3 := (srt_f (ty := tyS by_ n ap) (by omega)).2.2.2.2.mp (by omega)
          have e : R = .inr (enS by_ n ap, qp, sp) := by rw [← hR, txtN, if_pos ht3]
          exact ⟨rfl, rfl, by rw [e]; exact ⟨h922, hR9⟩, fun y hy => hYl9 y hy, fun y hy => hYh9 y hy, fun c h1 h2 => hC9 c h1 h2⟩
        · refine ok_iconst (pc' := 136) i166_135 rfl <| ok_goto (pc' := 140) i166_136 rfl <| ok_iconst (pc' := 141) i166_140 rfl <| ok_cc i166_141 rfl (cl_v o166 m9_133 na173 rfl rfl (bt rfl) (bt rfl) rfl (by rw [ShModel_k0 hSO, o173])) ln173 (pd173 (aR O) (aI 1) (aI 1)) <| ok_iloadn (pc' := 1) i173_0 rfl rfl <| ok_kz0 (pc1 := 9) (pc2 := 4) i173_1 (by decide) rfl rfl <| ok_aloadn (pc' := 5) i173_4 rfl rfl <| ok_iloadn (pc' := 6) i173_5 rfl rfl <| ?_
          refine ok_cc i173_6 rfl (cl_v o173 m9_112 na174 rfl rfl (bt rfl) (bt rfl) rfl (by rw [ShModel_k0 hSO, o174])) ln174 (pd174 (aR O) (aI 1)) <| ok_aloadn (pc' := 1) i174_0 rfl rfl <| ok_getfi (v := 0) (pc' := 4) i174_1 o174 gi9_106 (ShModel_k0 hSO) h922 rfl <| ok_kz0 (pc1 := 20) (pc2 := 7) i174_4 (by decide) rfl rfl <| ok_aloadn (pc' := 8) i174_7 rfl rfl <| ok_iloadn (pc' := 9) i174_8 rfl rfl <| ok_putfj (kk := 22) (pc' := 12) i174_9 o174 pi174_106 (ShModel_k0 hSO) rfl rfl <| ok_aloadn (pc' := 13) i174_12 rfl rfl <| ?_
          refine ok_aloadn (pc' := 14) i174_13 rfl rfl <| ok_getfi (v := (stS by_ n ap)) (pc' := 17) i174_14 o174 gi9_90 (ShModel_k0 hSO) (rd_ni (by decide) hT9.2.1) rfl <| ok_putfj (kk := 23) (pc' := 20) i174_17 o174 pi174_109 (ShModel_k0 hSO) rfl rfl <| ok_vret i174_20 rt174 <| kt_0 (pc' := 9) rfl <| ok_vret i173_9 rt173 <| kt_0 (pc' := 144) rfl <| ok_vret i166_144 rt166 <| ?_
          have ht2 : tyS by_ n ap ≠ 2 := fun h9 => by have := (srt_f (ty := tyS by_ n ap) (by omega)).2.2.2.1.mpr h9; omega
          have ht3 : tyS by_ n ap ≠ 3 := fun h9 => by have := (srt_f (ty := tyS by_ n ap) (by omega)).2.2.2.2.mpr h9; omega
          have e : R = .inl (1, stS by_ n ap) := by rw [← hR, txtN, if_neg ht3, if_pos ht2]
          exact ⟨rfl, rfl, by rw [e]; exact ⟨(rd_ni (by decide) rd_eq), rd_eq, (show (1 : Int) ≤ 1 by decide), (show (1 : Int) ≤ 4 by decide)⟩, fun y hy => by rw [up2_rd, if_neg (by omega), up2_rd, if_neg (by omega)]; exact hYl9 y hy, fun y hy => by rw [up2_rd, if_neg (by omega), up2_rd, if_neg (by omega)]; exact hYh9 y hy, fun c h1 h2 => by rw [up2_na (by omega), up2_na (by omega)]; exact hC9 c h1 h2⟩
      · refine ok_aloadn (pc' := 117) i166_116 rfl rfl <| ?_
        refine ok_cn0 (pc' := 120) (d0 := 1) i166_117 rfl (cl_v o166 m9_116 na167 rfl rfl (bt rfl) (bt rfl) rfl (by rw [ShModel_k0 hSO, o167])) ln167 (pd167 (aR O)) (by omega) (t167 (a := (enS by_ n ap)) hSO hU9 h917 hn (by omega) hT9.1) rfl (fun M23 p24 => ?_)
        have z61 : ((enS by_ n ap) ≤ (stS by_ n (enS by_ n ap)) ∧ (stS by_ n (enS by_ n ap)) ≤ n ∧ (stS by_ n (enS by_ n ap)) ≤ (enS by_ n (enS by_ n ap)) ∧ (enS by_ n (enS by_ n ap)) ≤ n) ∧ 0 ≤ (tyS by_ n (enS by_ n ap)) ∧ (tyS by_ n (enS by_ n ap)) ≤ 4 := (by have h9 := en_rg (by_ := by_) (n := n) (a := (enS by_ n ap)) (by omega); exact ⟨⟨h9.1, h9.2.1, h9.2.2.1, h9.2.2.2.1⟩, h9.2.2.2.2.2⟩)
        have z62 : 0 ≤ (srt (tyS by_ n (enS by_ n ap))) ∧ (srt (tyS by_ n (enS by_ n ap))) ≤ 4 := (srt_f (by omega)).1
        have hUM23 : InU M23 O by_ := fun i h0 h1 => by rw [p24.2.2.2.2.2 _ (by omega)]; exact hU9 i h0 h1
        have hRM23 : RepR M23 O qp sp := RepR.fr hR9 ⟨p24.2.2.2.2.1 29 (by decide) (by decide) (by decide) (by decide), p24.2.2.2.2.1 30 (by decide) (by decide) (by decide) (by decide)⟩ (fun a h1 h2 => p24.2.2.2.2.2 a (by omega))
        refine ok_aloadn (pc' := 121) i166_120 rfl rfl <| ?_
        have hWD1 : WdsR g M23 := WdsR.fr hWD9 (fun c hc => p24.2.2.2.2.2 c (by omega))
        refine ok_cn0 (pc' := 124) (d0 := 5) i166_121 rfl (cl_v o166 m9_190 na178 rfl rfl (bt rfl) (bt rfl) rfl (by rw [ShModel_k0 hSO, o178])) ln178 (pd178 (aR O)) (by omega) (t178 (a := enS by_ n ap) hSO hUM23 ((p24.2.2.2.2.1 17 (by decide) (by decide) (by decide) (by decide)).trans h917) hn (by omega) ⟨p24.1, p24.2.1, p24.2.2.1, p24.2.2.2.1⟩ ((p24.2.2.2.2.1 22 (by decide) (by decide) (by decide) (by decide)).trans h922) hRM23 hV9 (V_q hV9) h3 h4 hZR9 hWD1) rfl (fun M25 p26 => ?_)
        refine ok_goto (pc' := 101) i166_124 rfl <| ?_
        have ht2 : tyS by_ n ap = 2 := (srt_f (ty := tyS by_ n ap) (by omega)).2.2.2.1.mp (by omega)
        have r9 := (en_rg (by_ := by_) (n := n) (a := ap) (by omega)).2.2.2.2.1 (by omega)
        have hlo : ∀ y : Int, y < 18 → M25 O y = M O y := fun y hy => (p26.2.1 y hy).trans ((p24.2.2.2.2.1 y (by omega) (by omega) (by omega) (by omega)).trans (hYl9 y hy))
        have hhi : ∀ y : Int, 30 < y → M25 O y = M O y := fun y hy => (p26.2.2.1 y hy).trans ((p24.2.2.2.2.1 y (by omega) (by omega) (by omega) (by omega)).trans (hYh9 y hy))
        have hcc : ∀ c, c ≠ O → (c < O + 9 ∨ O + 13 < c) → M25 c = M c := fun c h1 h2 => (p26.2.2.2 c h1 h2).trans ((p24.2.2.2.2.2 c (by omega)).trans (hC9 c h1 h2))
        have hR2 : (match lineL by_ n qp sp (enS by_ n ap) with | .inl e => .inl e | .inr x => txtN by_ n k x.1 x.2.1 x.2.2) = R := by rw [← hR, txtN, if_neg (by omega), if_neg (by omega)]; cases lineL by_ n qp sp (enS by_ n ap) <;> rfl
        have p8 := p26.1
        cases hx : lineL by_ n qp sp (enS by_ n ap) with
        | inl e =>
          rw [hx] at p8 hR2
          rcases p8 with p8 | ⟨pp, e1, e2, e3, e4⟩
          · refine (w166_w (c := e.1) hSO p8.1 ⟨p8.2.2.1, p8.2.2.2⟩).mono (fun o g1 M1 h => ?_)
            obtain ⟨q1, q2, rfl⟩ := h
            exact ⟨q1, q2, by rw [← hR2]; exact p8, hlo, hhi, hcc⟩
          · refine (w166_c (so := 4) hSO e2 e4 (by omega) e3).mono (fun o g1 M1 h => ?_)
            obtain ⟨q1, q2, rfl⟩ := h
            refine ⟨q1, q2, ?_, fun y hy => by rw [up2_rd, if_neg (by omega), up2_rd, if_neg (by omega)]; exact hlo y hy, fun y hy => by rw [up2_rd, if_neg (by omega), up2_rd, if_neg (by omega)]; exact hhi y hy, fun c h1 h2 => by rw [up2_na h1, up2_na h1]; exact hcc c h1 h2⟩
            rw [← hR2, Sum.inl.inj e1]
            exact ⟨rd_ni (by decide) rd_eq, rd_eq, (show (1 : Int) ≤ 1 by decide), (show (1 : Int) ≤ 4 by decide)⟩
        | inr x =>
          rw [hx] at p8 hR2
          obtain ⟨i1, i2, i3, i4, i5, i6⟩ := lineL_ok hV9 (by omega) hx
          rcases p8 with p8 | ⟨pp, e1, _⟩
          · exact ih (k, x.1, x.2.1, x.2.2) _ _ (by dsimp only; omega) ⟨by dsimp only; omega, by dsimp only; omega, p8.2.1, (hlo 17 (by decide)).trans ((hYl9 17 (by decide)).symm.trans h917), p8.1, p8.2.2, i2, i4 hZR9, i5 h3, i6 h4, hlo, hhi, hcc, hR2, w2, hw2, rfl⟩
          · cases e1
  · obtain ⟨i1, i2, i3, i4, i5, i6, i7, i8, i9, i10, i11, i12, i13, i14⟩ := hI
    exact ⟨i1, i2, i3, i4, i5, i6, i7, i8, i9, i10, i11, i12, i13, i14, w2, hw2, rfl⟩
