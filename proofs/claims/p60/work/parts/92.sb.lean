/-! STRINGBUILDER: numbers, strings (by program, wip/p60/gen) -/
theorem o184 : am_oc 184 = 18 := by decide +kernel
theorem m18_53 : am_mlk 18 53 10 174 = true := by decide +kernel
theorem na174 : am_na 174 = 1 := by decide +kernel
theorem nl174 : am_nL 174 = 4 := by decide +kernel
theorem pd174 : ∀ a0 a1 : AV, am_pad 174 [a0, a1] = [a0, a1, aU, aU] := by intros; unfold am_pad; rw [nl174]; rfl
theorem ln174 : 2 ≤ am_nL 174 := by rw [nl174]; decide
theorem o174 : am_oc 174 = 24 := by decide +kernel
theorem m24_245 : am_mlk 24 245 1 165 = true := by decide +kernel
theorem na165 : am_na 165 = 1 := by decide +kernel
theorem nl165 : am_nL 165 = 4 := by decide +kernel
theorem pd165 : ∀ a0 : AV, am_pad 165 [a0] = [a0, aU, aU, aU] := by intros; unfold am_pad; rw [nl165]; rfl
theorem ln165 : 1 ≤ am_nL 165 := by rw [nl165]; decide
theorem o165 : am_oc 165 = 27 := by decide +kernel
theorem m24_248 : am_mlk 24 248 1 166 = true := by decide +kernel
theorem na166 : am_na 166 = 3 := by decide +kernel
theorem nl166 : am_nL 166 = 7 := by decide +kernel
theorem pd166 : ∀ a0 a1 a2 : AV, am_pad 166 [a0, a1, a2] = [a0, a1, a2, aU, aU, aU, aU] := by intros; unfold am_pad; rw [nl166]; rfl
theorem ln166 : 3 ≤ am_nL 166 := by rw [nl166]; decide
theorem pi174_79 : am_pfi 174 24 79 18 3 = true := by decide +kernel
theorem rt174 : am_rt 174 = some (.object "java/lang/AbstractStringBuilder") := by decide +kernel
theorem rt184 : am_rt 184 = some (.object "java/lang/StringBuilder") := by decide +kernel
theorem o183 : am_oc 183 = 18 := by decide +kernel
theorem m18_29 : am_mlk 18 29 10 168 = true := by decide +kernel
theorem na168 : am_na 168 = 1 := by decide +kernel
theorem nl168 : am_nL 168 = 3 := by decide +kernel
theorem pd168 : ∀ a0 a1 : AV, am_pad 168 [a0, a1] = [a0, a1, aU] := by intros; unfold am_pad; rw [nl168]; rfl
theorem ln168 : 2 ≤ am_nL 168 := by rw [nl168]; decide
theorem o168 : am_oc 168 = 24 := by decide +kernel
theorem m24_32 : am_mlk 24 32 0 1 = true := by decide +kernel
theorem m24_208 : am_mlk 24 208 8 172 = true := by decide +kernel
theorem na172 : am_na 172 = 2 := by decide +kernel
theorem nl172 : am_nL 172 = 3 := by decide +kernel
theorem pd172 : ∀ a0 a1 a2 : AV, am_pad 172 [a0, a1, a2] = [a0, a1, a2] := by intros; unfold am_pad; rw [nl172]; rfl
theorem ln172 : 3 ≤ am_nL 172 := by rw [nl172]; decide
theorem o172 : am_oc 172 = 24 := by decide +kernel
theorem m24_397 : am_mlk 24 397 8 173 = true := by decide +kernel
theorem na173 : am_na 173 = 1 := by decide +kernel
theorem nl173 : am_nL 173 = 2 := by decide +kernel
theorem pd173 : ∀ a0 a1 : AV, am_pad 173 [a0, a1] = [a0, a1] := by intros; unfold am_pad; rw [nl173]; rfl
theorem ln173 : 2 ≤ am_nL 173 := by rw [nl173]; decide
theorem o173 : am_oc 173 = 24 := by decide +kernel
theorem m24_40 : am_mlk 24 40 0 4 = true := by decide +kernel
theorem rt173 : am_rt 173 = none := by decide +kernel
theorem m24_399 : am_mlk 24 399 0 156 = true := by decide +kernel
theorem na156 : am_na 156 = 3 := by decide +kernel
theorem nl156 : am_nL 156 = 4 := by decide +kernel
theorem pd156 : ∀ a0 a1 a2 a3 : AV, am_pad 156 [a0, a1, a2, a3] = [a0, a1, a2, a3] := by intros; unfold am_pad; rw [nl156]; rfl
theorem ln156 : 4 ≤ am_nL 156 := by rw [nl156]; decide
theorem o156 : am_oc 156 = 14 := by decide +kernel
theorem m14_212 : am_mlk 14 212 4 0 = true := by decide +kernel
theorem rt156 : am_rt 156 = none := by decide +kernel
theorem rt172 : am_rt 172 = none := by decide +kernel
theorem pi168_79 : am_pfi 168 24 79 18 3 = true := by decide +kernel
theorem rt168 : am_rt 168 = some (.object "java/lang/AbstractStringBuilder") := by decide +kernel
theorem rt183 : am_rt 183 = some (.object "java/lang/StringBuilder") := by decide +kernel
theorem sayN_in {x : Int} {t : Tx} (hx : 0 ≤ x ∧ x ≤ 9) : sayN t x = say t (48 + x % 10) := by
  unfold sayN
  rw [if_pos (by omega), show x % 10 = x by omega]
theorem sayN_2 {x : Int} {t : Tx} (hx : 10 ≤ x ∧ x ≤ 99) : sayN t x = say (say t (48 + x / 10)) (48 + x % 10) := by
  unfold sayN
  rw [if_neg (by omega), if_pos (by omega)]
theorem sayN_3 {x y z : Int} {t : Tx} (h : x = 100 * y + z) (hy : 1 ≤ y ∧ y ≤ 9) (hz : 0 ≤ z ∧ z ≤ 99) : sayN t x = say (say (say t (48 + y % 10)) (48 + z / 10)) (48 + z % 10) := by
  unfold sayN
  rw [if_neg (by omega), if_neg (by omega), show x / 100 = y % 10 by omega, show x / 10 % 10 = z / 10 by omega, show x % 10 = z % 10 by omega]
section SB
variable {g g1 : AG} {M M1 : AM} {B V V1 : Nat} {C C1 : Int} {t t1 : Tx}
theorem sb_e1 {c : Int} (h : SB g M B V C t) (hC : t.1 + 1 ≤ C) (hc : 0 ≤ c ∧ c ≤ 127) : SB g (up2 (up2 M V t.1 c) B 3 (t.1 + 1)) B V C (say t c) := by
  have hz := h.z
  refine h.cnt (t1 := say t c) ⟨by show 0 ≤ t.1 + 1; omega, hC⟩ (up2_na h.d) (fun i i0 i1 => ?_)
  have i2 : i < t.1 + 1 := i1
  by_cases hi : i = t.1
  · subst hi; rw [rd_eq, say_at]; exact ⟨rfl, hc⟩
  · have hm := h.m i i0 (by omega)
    rw [say_in (by omega)]; exact ⟨rd_ni hi hm.1, hm.2⟩
theorem sb_e2 {c e : Int} (h : SB g M B V C t) (hC : t.1 + 2 ≤ C) (hc : 0 ≤ c ∧ c ≤ 127) (he : 0 ≤ e ∧ e ≤ 127) : SB g (up2 (up2 (up2 M V (t.1 + 1) e) V t.1 c) B 3 (t.1 + 2)) B V C (say (say t c) e) := by
  have hz := h.z
  have e1 : (say (say t c) e).1 = t.1 + 2 := by show t.1 + 1 + 1 = t.1 + 2; omega
  rw [← e1]
  refine h.cnt (t1 := say (say t c) e) ⟨by omega, by omega⟩ ((up2_na h.d).trans (up2_na h.d)) (fun i i0 i1 => ?_)
  rw [e1] at i1
  have s1 : (say t c).1 = t.1 + 1 := rfl
  by_cases h1 : i = t.1 + 1
  · subst h1; rw [← s1, say_at]; exact ⟨rd_ni (by omega) rd_eq, he⟩
  · rw [say_in (t := say t c) (by rw [s1]; omega)]
    by_cases hi : i = t.1
    · subst hi; rw [rd_eq, say_at]; exact ⟨rfl, hc⟩
    · have hm := h.m i i0 (by omega)
      rw [say_in (by omega)]; exact ⟨rd_ni hi (rd_ni h1 hm.1), hm.2⟩
theorem sb_e3 {c e f : Int} (h : SB g M B V C t) (hC : t.1 + 3 ≤ C) (hc : 0 ≤ c ∧ c ≤ 127) (he : 0 ≤ e ∧ e ≤ 127) (hf : 0 ≤ f ∧ f ≤ 127) : SB g (up2 (up2 (up2 (up2 M V (t.1 + 2) f) V (t.1 + 1) e) V t.1 c) B 3 (t.1 + 3)) B V C (say (say (say t c) e) f) := by
  have hz := h.z
  have e1 : (say (say (say t c) e) f).1 = t.1 + 3 := by show t.1 + 1 + 1 + 1 = t.1 + 3; omega
  rw [← e1]
  refine h.cnt (t1 := say (say (say t c) e) f) ⟨by omega, by omega⟩ ((up2_na h.d).trans ((up2_na h.d).trans (up2_na h.d))) (fun i i0 i1 => ?_)
  rw [e1] at i1
  have s1 : (say t c).1 = t.1 + 1 := rfl
  have s2 : (say (say t c) e).1 = t.1 + 2 := by show t.1 + 1 + 1 = t.1 + 2; omega
  by_cases h2 : i = t.1 + 2
  · subst h2; rw [← s2, say_at]; exact ⟨rd_ni (by omega) (rd_ni (by omega) rd_eq), hf⟩
  · rw [say_in (t := say (say t c) e) (by rw [s2]; omega)]
    by_cases h1 : i = t.1 + 1
    · subst h1; rw [← s1, say_at]; exact ⟨rd_ni (by omega) rd_eq, he⟩
    · rw [say_in (t := say t c) (by rw [s1]; omega)]
      by_cases hi : i = t.1
      · subst hi; rw [rd_eq, say_at]; exact ⟨rfl, hc⟩
      · have hm := h.m i i0 (by omega)
        rw [say_in (by omega)]; exact ⟨rd_ni hi (rd_ni h1 (rd_ni h2 hm.1)), hm.2⟩
theorem sayW_1 {tx : Int → Int} (n : Nat) : (sayW t tx n).1 = t.1 + n := by
  induction n with
  | zero => show t.1 = t.1 + ((0 : Nat) : Int); omega
  | succ n ih => show (sayW t tx n).1 + 1 = _; rw [ih]; omega
theorem sayW_2 {tx : Int → Int} {i : Int} (n : Nat) : (sayW t tx n).2 i = if t.1 ≤ i ∧ i < t.1 + n then tx (i - t.1) else t.2 i := by
  induction n with
  | zero => show t.2 i = _; rw [if_neg (by omega)]
  | succ n ih =>
    have e : (sayW t tx (n + 1)).2 i = upI (sayW t tx n).2 (sayW t tx n).1 (tx (0 + (n : Int))) i := rfl
    rw [e, sayW_1]
    by_cases h : i = t.1 + n
    · subst h
      rw [upI_eq, if_pos (by omega), show t.1 + (n : Int) - t.1 = 0 + (n : Int) by omega]
    · rw [upI_ne h, ih]
      by_cases h2 : t.1 ≤ i ∧ i < t.1 + n
      · rw [if_pos h2, if_pos (by omega)]
      · rw [if_neg h2, if_neg (by omega)]
theorem sb_eW {a0 n : Nat} {tx : Int → Int} {m : Int} (h : SB g M B V C t) (hnm : (n : Int) = m) (hC : t.1 + m ≤ C) (hT : ∀ i : Int, 0 ≤ i → i < m → M a0 i = tx i ∧ 0 ≤ tx i ∧ tx i ≤ 127) : SB g (up2 (upM M V (am_cpy (M a0) (M V) 0 t.1 m)) B 3 (t.1 + m)) B V C (sayW t tx n) := by
  have hz := h.z
  have e1 : (sayW t tx n).1 = t.1 + m := by rw [sayW_1, hnm]
  rw [← e1]
  refine h.cnt (t1 := sayW t tx n) (by omega) (by show (if B = V then _ else _) = _; rw [if_neg h.d]) (fun i i0 i1 => ?_)
  rw [e1] at i1
  have e2 : upM M V (am_cpy (M a0) (M V) 0 t.1 m) V i = am_cpy (M a0) (M V) 0 t.1 m i := by unfold upM; rw [if_pos rfl]
  rw [e2, sayW_2]
  unfold am_cpy
  by_cases hi : t.1 ≤ i
  · have hx := hT (i - t.1) (by omega) (by omega)
    rw [if_pos ⟨hi, i1⟩, if_pos (by omega), show (0 : Int) + (i - t.1) = i - t.1 by omega]
    exact hx
  · rw [if_neg (by omega), if_neg (by omega)]
    exact h.m i i0 (by omega)
end SB
theorem ShStr.fr {F : Nat → Prop} {nc ns a n : Nat} {g g1 : AG} {M M1 : AM} (h : ShStr g a n) (e : Fr F nc ns g M g1 M1) (ha : a + 1 < 100) (hF : ¬ F a) : ShStr g1 a n := ⟨(e.k (by omega)).trans h.1, by rw [e.r (by omega) hF]; exact h.2.1, (e.k (by omega)).trans h.2.2.1, (e.l (by omega)).trans h.2.2.2⟩
theorem fb_no {B V c : Nat} (hB : 100 ≤ B) (hV : 100 ≤ V) (hc : c < 100) : ¬ FB B V c := fun e => by
  unfold FB at e
  omega
theorem sbI_1 {g : AG} {M : AM} {B V : Nat} {C : Int} {t : Tx} {x : Int} (hS : SB g M B V C t) (hBS : BS g M) (hC : C ≤ 4000) (ht : t.1 ≤ 1990) (hx : 0 ≤ x ∧ x ≤ 9) : Ok 5 184 0 [aR B, aI x] [] g M (fun o g1 M1 => o = .inl (some (aR B)) ∧ ∃ (V1 : Nat) (C1 : Int), SB g1 M1 B V1 C1 (sayN t x) ∧ Gr g M g1 M1 B V V1 C C1 (sayN t x).1) := by
  have hz := hS.z
  have hA := hS.a
  refine ok_aloadn (pc' := 1) i184_0 rfl rfl <| ok_iloadn (pc' := 2) i184_1 rfl rfl <| ok_cc i184_2 rfl (cl_w o184 m18_53 na174 rfl rfl (bt rfl) (bt rfl) rfl hS.k) ln174 (pd174 (aR B) (aI x)) <| ok_aloadn (pc' := 1) i174_0 rfl rfl <| ok_getfi (v := t.1) (pc' := 4) i174_1 o174 gi24_79 (hS.k) (hS.n) rfl <| ok_istoren (pc' := 5) (ls' := [aR B, aI x, aI t.1, aU]) i174_4 (bt rfl) rfl rfl <| ok_iloadn (pc' := 6) i174_5 rfl rfl <| ok_iloadn (pc' := 7) i174_6 rfl rfl <| ?_
  refine ok_cc i174_7 rfl (cl_s o174 m24_245 na165 rfl rfl (bt rfl) (bt rfl) rfl) ln165 (pd165 (aI x)) <| (Ok.deep (t165_1 (by omega)) (by omega)).mono (fun o9 g2k M2k p2k => ?_)
  obtain ⟨rfl, eg2k, em2k⟩ := p2k
  rw [eg2k, em2k]
  refine kt_v (pc' := 10) rfl <| ok_iadd (v := (t.1 + 1)) (pc' := 11) i174_10 rfl rfl <| ok_istoren (pc' := 12) (ls' := [aR B, aI x, aI t.1, aI (t.1 + 1)]) i174_11 (bt rfl) rfl rfl <| ok_aloadn (pc' := 13) i174_12 rfl rfl <| ok_iloadn (pc' := 14) i174_13 rfl rfl <| ?_
  refine ok_cc i174_14 rfl (cl_u o174 m24_100 na169 rfl rfl (bt rfl) (bt rfl) rfl hS.k) ln169 (pd169 (aR B) (aI (t.1 + 1))) <| (Ok.deep (t169 (m := (t.1 + 1)) hS (by omega) (by omega)) (by omega)).mono (fun o9 g3e M3e p3e => ?_)
  obtain ⟨rfl, V3, C3, hS3, hm3, hG3⟩ := p3e
  have hz3 := hS3.z
  have hg3 := hG3.2.2
  have hc3 : C ≤ C3 ∧ C3 ≤ 8000 := by omega
  refine kt_0 (pc' := 17) rfl <| ok_aloadn (pc' := 18) i174_17 rfl rfl <| ok_cc i174_18 rfl (cl_u o174 m24_83 na171 rfl rfl (bt rfl) (bt rfl) rfl hS3.k) ln171 (pd171 (aR B)) <| ok_gsta (pc' := 3) i171_0 o171 rfl <| ok_kz0 (pc1 := 17) (pc2 := 6) i171_3 (by decide) rfl rfl <| ok_aloadn (pc' := 7) i171_6 rfl rfl <| ok_getfi (v := 0) (pc' := 10) i171_7 o171 gi24_22 (hS3.k) (hS3.c) rfl <| ok_kz0 (pc1 := 17) (pc2 := 13) i171_10 (by decide) rfl rfl <| ?_
  refine ok_iconst (pc' := 14) i171_13 rfl <| ok_goto (pc' := 18) i171_14 rfl <| ok_iretz i171_18 rt171 (by decide) <| kt_v (pc' := 21) rfl <| ok_kz0 (pc1 := 37) (pc2 := 24) i174_21 (by decide) rfl rfl <| ok_iloadn (pc' := 25) i174_24 rfl rfl <| ok_iloadn (pc' := 26) i174_25 rfl rfl <| ok_aloadn (pc' := 27) i174_26 rfl rfl <| ?_
  refine ok_getfr (r := V3) (pc' := 30) i174_27 o174 gr24_15 (hS3.k) (hS3.r) rfl <| ?_
  have hf4 := fb_no hA.1 hA.2.2.1 (show 50 < 100 by decide)
  have hf4x := fb_no hA.1 hA.2.2.1 (show 51 < 100 by decide)
  have hO4 := hBS.one
  have hT4 := hBS.ten
  have hK4 := hG3.1
  refine ok_cc i174_30 rfl (cl_s o174 m24_248 na166 rfl rfl (bt rfl) (bt rfl) rfl) ln166 (pd166 (aI x) (aI (t.1 + 1)) (aR V3)) <| (Ok.deep (t166_1 (p := t.1) hS3 ⟨(hK4.k (by omega)).trans hO4.1, (hK4.l (by omega)).trans hO4.2.1, fun i => by rw [hK4.m (by omega) hf4]; exact hO4.2.2 i⟩ ⟨(hK4.k (by omega)).trans hT4.1, (hK4.l (by omega)).trans hT4.2.1, fun i => by rw [hK4.m (by omega) hf4x]; exact hT4.2.2 i⟩ hx ⟨by omega, by omega⟩ (by omega)) (by omega)).mono (fun o9 g4k M4k p4k => ?_)
  obtain ⟨rfl, eg4k, em4k⟩ := p4k
  rw [eg4k, em4k]
  refine kt_v (pc' := 33) rfl <| ok_pop (pc' := 34) i174_33 rfl rfl <| ok_goto (pc' := 48) i174_34 rfl <| ok_aloadn (pc' := 49) i174_48 rfl rfl <| ok_iloadn (pc' := 50) i174_49 rfl rfl <| ok_putfj (kk := 3) (pc' := 53) i174_50 o174 pi174_79 (hS3.k) rfl rfl <| ok_aloadn (pc' := 54) i174_53 rfl rfl <| ok_aret i174_54 (by rw [rt174]) <| ?_
  refine kt_v (pc' := 5) rfl <| ok_pop (pc' := 6) i184_5 rfl rfl <| ok_aloadn (pc' := 7) i184_6 rfl rfl <| ok_aret i184_7 (by rw [rt184]) <| ?_
  rw [sayN_in hx]
  exact ⟨rfl, _, _, sb_e1 hS3 (by omega) (by omega), Gr.w ((hG3.upV).upB) (by show t.1 + 1 ≤ t.1 + 1; omega)⟩
theorem sbI_2 {g : AG} {M : AM} {B V : Nat} {C : Int} {t : Tx} {x : Int} (hS : SB g M B V C t) (hBS : BS g M) (hC : C ≤ 4000) (ht : t.1 ≤ 1990) (hx : 10 ≤ x ∧ x ≤ 99) : Ok 5 184 0 [aR B, aI x] [] g M (fun o g1 M1 => o = .inl (some (aR B)) ∧ ∃ (V1 : Nat) (C1 : Int), SB g1 M1 B V1 C1 (sayN t x) ∧ Gr g M g1 M1 B V V1 C C1 (sayN t x).1) := by
  have hz := hS.z
  have hA := hS.a
  refine ok_aloadn (pc' := 1) i184_0 rfl rfl <| ok_iloadn (pc' := 2) i184_1 rfl rfl <| ok_cc i184_2 rfl (cl_w o184 m18_53 na174 rfl rfl (bt rfl) (bt rfl) rfl hS.k) ln174 (pd174 (aR B) (aI x)) <| ok_aloadn (pc' := 1) i174_0 rfl rfl <| ok_getfi (v := t.1) (pc' := 4) i174_1 o174 gi24_79 (hS.k) (hS.n) rfl <| ok_istoren (pc' := 5) (ls' := [aR B, aI x, aI t.1, aU]) i174_4 (bt rfl) rfl rfl <| ok_iloadn (pc' := 6) i174_5 rfl rfl <| ok_iloadn (pc' := 7) i174_6 rfl rfl <| ?_
  refine ok_cc i174_7 rfl (cl_s o174 m24_245 na165 rfl rfl (bt rfl) (bt rfl) rfl) ln165 (pd165 (aI x)) <| (Ok.deep (t165_2 (by omega)) (by omega)).mono (fun o9 g5k M5k p5k => ?_)
  obtain ⟨rfl, eg5k, em5k⟩ := p5k
  rw [eg5k, em5k]
  refine kt_v (pc' := 10) rfl <| ok_iadd (v := (t.1 + 2)) (pc' := 11) i174_10 rfl rfl <| ok_istoren (pc' := 12) (ls' := [aR B, aI x, aI t.1, aI (t.1 + 2)]) i174_11 (bt rfl) rfl rfl <| ok_aloadn (pc' := 13) i174_12 rfl rfl <| ok_iloadn (pc' := 14) i174_13 rfl rfl <| ?_
  refine ok_cc i174_14 rfl (cl_u o174 m24_100 na169 rfl rfl (bt rfl) (bt rfl) rfl hS.k) ln169 (pd169 (aR B) (aI (t.1 + 2))) <| (Ok.deep (t169 (m := (t.1 + 2)) hS (by omega) (by omega)) (by omega)).mono (fun o9 g6e M6e p6e => ?_)
  obtain ⟨rfl, V6, C6, hS6, hm6, hG6⟩ := p6e
  have hz6 := hS6.z
  have hg6 := hG6.2.2
  have hc6 : C ≤ C6 ∧ C6 ≤ 8000 := by omega
  refine kt_0 (pc' := 17) rfl <| ok_aloadn (pc' := 18) i174_17 rfl rfl <| ok_cc i174_18 rfl (cl_u o174 m24_83 na171 rfl rfl (bt rfl) (bt rfl) rfl hS6.k) ln171 (pd171 (aR B)) <| ok_gsta (pc' := 3) i171_0 o171 rfl <| ok_kz0 (pc1 := 17) (pc2 := 6) i171_3 (by decide) rfl rfl <| ok_aloadn (pc' := 7) i171_6 rfl rfl <| ok_getfi (v := 0) (pc' := 10) i171_7 o171 gi24_22 (hS6.k) (hS6.c) rfl <| ok_kz0 (pc1 := 17) (pc2 := 13) i171_10 (by decide) rfl rfl <| ?_
  refine ok_iconst (pc' := 14) i171_13 rfl <| ok_goto (pc' := 18) i171_14 rfl <| ok_iretz i171_18 rt171 (by decide) <| kt_v (pc' := 21) rfl <| ok_kz0 (pc1 := 37) (pc2 := 24) i174_21 (by decide) rfl rfl <| ok_iloadn (pc' := 25) i174_24 rfl rfl <| ok_iloadn (pc' := 26) i174_25 rfl rfl <| ok_aloadn (pc' := 27) i174_26 rfl rfl <| ?_
  refine ok_getfr (r := V6) (pc' := 30) i174_27 o174 gr24_15 (hS6.k) (hS6.r) rfl <| ?_
  have hf7 := fb_no hA.1 hA.2.2.1 (show 50 < 100 by decide)
  have hf7x := fb_no hA.1 hA.2.2.1 (show 51 < 100 by decide)
  have hO7 := hBS.one
  have hT7 := hBS.ten
  have hK7 := hG6.1
  refine ok_cc i174_30 rfl (cl_s o174 m24_248 na166 rfl rfl (bt rfl) (bt rfl) rfl) ln166 (pd166 (aI x) (aI (t.1 + 2)) (aR V6)) <| (Ok.deep (t166_2 (p := t.1) hS6 ⟨(hK7.k (by omega)).trans hO7.1, (hK7.l (by omega)).trans hO7.2.1, fun i => by rw [hK7.m (by omega) hf7]; exact hO7.2.2 i⟩ ⟨(hK7.k (by omega)).trans hT7.1, (hK7.l (by omega)).trans hT7.2.1, fun i => by rw [hK7.m (by omega) hf7x]; exact hT7.2.2 i⟩ hx ⟨by omega, by omega⟩ (by omega)) (by omega)).mono (fun o9 g7k M7k p7k => ?_)
  obtain ⟨rfl, eg7k, em7k⟩ := p7k
  rw [eg7k, em7k]
  refine kt_v (pc' := 33) rfl <| ok_pop (pc' := 34) i174_33 rfl rfl <| ok_goto (pc' := 48) i174_34 rfl <| ok_aloadn (pc' := 49) i174_48 rfl rfl <| ok_iloadn (pc' := 50) i174_49 rfl rfl <| ok_putfj (kk := 3) (pc' := 53) i174_50 o174 pi174_79 (hS6.k) rfl rfl <| ok_aloadn (pc' := 54) i174_53 rfl rfl <| ok_aret i174_54 (by rw [rt174]) <| ?_
  refine kt_v (pc' := 5) rfl <| ok_pop (pc' := 6) i184_5 rfl rfl <| ok_aloadn (pc' := 7) i184_6 rfl rfl <| ok_aret i184_7 (by rw [rt184]) <| ?_
  rw [sayN_2 hx]
  exact ⟨rfl, _, _, sb_e2 hS6 (by omega) (by omega) (by omega), Gr.w (((hG6.upV).upV).upB) (by show t.1 + 2 ≤ t.1 + 1 + 1; omega)⟩
theorem sbI_3 {g : AG} {M : AM} {B V : Nat} {C : Int} {t : Tx} {x y z : Int} (hS : SB g M B V C t) (hBS : BS g M) (hC : C ≤ 4000) (ht : t.1 ≤ 1990) (hx : x = 100 * y + z) (hy : 1 ≤ y ∧ y ≤ 9) (hz3 : 0 ≤ z ∧ z ≤ 99) : Ok 5 184 0 [aR B, aI x] [] g M (fun o g1 M1 => o = .inl (some (aR B)) ∧ ∃ (V1 : Nat) (C1 : Int), SB g1 M1 B V1 C1 (sayN t x) ∧ Gr g M g1 M1 B V V1 C C1 (sayN t x).1) := by
  have hz := hS.z
  have hA := hS.a
  refine ok_aloadn (pc' := 1) i184_0 rfl rfl <| ok_iloadn (pc' := 2) i184_1 rfl rfl <| ok_cc i184_2 rfl (cl_w o184 m18_53 na174 rfl rfl (bt rfl) (bt rfl) rfl hS.k) ln174 (pd174 (aR B) (aI x)) <| ok_aloadn (pc' := 1) i174_0 rfl rfl <| ok_getfi (v := t.1) (pc' := 4) i174_1 o174 gi24_79 (hS.k) (hS.n) rfl <| ok_istoren (pc' := 5) (ls' := [aR B, aI x, aI t.1, aU]) i174_4 (bt rfl) rfl rfl <| ok_iloadn (pc' := 6) i174_5 rfl rfl <| ok_iloadn (pc' := 7) i174_6 rfl rfl <| ?_
  refine ok_cc i174_7 rfl (cl_s o174 m24_245 na165 rfl rfl (bt rfl) (bt rfl) rfl) ln165 (pd165 (aI x)) <| (Ok.deep (t165_3 (by omega)) (by omega)).mono (fun o9 g8k M8k p8k => ?_)
  obtain ⟨rfl, eg8k, em8k⟩ := p8k
  rw [eg8k, em8k]
  refine kt_v (pc' := 10) rfl <| ok_iadd (v := (t.1 + 3)) (pc' := 11) i174_10 rfl rfl <| ok_istoren (pc' := 12) (ls' := [aR B, aI x, aI t.1, aI (t.1 + 3)]) i174_11 (bt rfl) rfl rfl <| ok_aloadn (pc' := 13) i174_12 rfl rfl <| ok_iloadn (pc' := 14) i174_13 rfl rfl <| ?_
  refine ok_cc i174_14 rfl (cl_u o174 m24_100 na169 rfl rfl (bt rfl) (bt rfl) rfl hS.k) ln169 (pd169 (aR B) (aI (t.1 + 3))) <| (Ok.deep (t169 (m := (t.1 + 3)) hS (by omega) (by omega)) (by omega)).mono (fun o9 g9e M9e p9e => ?_)
  obtain ⟨rfl, V9, C9, hS9, hm9, hG9⟩ := p9e
  have hz9 := hS9.z
  have hg9 := hG9.2.2
  have hc9 : C ≤ C9 ∧ C9 ≤ 8000 := by omega
  refine kt_0 (pc' := 17) rfl <| ok_aloadn (pc' := 18) i174_17 rfl rfl <| ok_cc i174_18 rfl (cl_u o174 m24_83 na171 rfl rfl (bt rfl) (bt rfl) rfl hS9.k) ln171 (pd171 (aR B)) <| ok_gsta (pc' := 3) i171_0 o171 rfl <| ok_kz0 (pc1 := 17) (pc2 := 6) i171_3 (by decide) rfl rfl <| ok_aloadn (pc' := 7) i171_6 rfl rfl <| ok_getfi (v := 0) (pc' := 10) i171_7 o171 gi24_22 (hS9.k) (hS9.c) rfl <| ok_kz0 (pc1 := 17) (pc2 := 13) i171_10 (by decide) rfl rfl <| ?_
  refine ok_iconst (pc' := 14) i171_13 rfl <| ok_goto (pc' := 18) i171_14 rfl <| ok_iretz i171_18 rt171 (by decide) <| kt_v (pc' := 21) rfl <| ok_kz0 (pc1 := 37) (pc2 := 24) i174_21 (by decide) rfl rfl <| ok_iloadn (pc' := 25) i174_24 rfl rfl <| ok_iloadn (pc' := 26) i174_25 rfl rfl <| ok_aloadn (pc' := 27) i174_26 rfl rfl <| ?_
  refine ok_getfr (r := V9) (pc' := 30) i174_27 o174 gr24_15 (hS9.k) (hS9.r) rfl <| ?_
  have hf10 := fb_no hA.1 hA.2.2.1 (show 50 < 100 by decide)
  have hf10x := fb_no hA.1 hA.2.2.1 (show 51 < 100 by decide)
  have hO10 := hBS.one
  have hT10 := hBS.ten
  have hK10 := hG9.1
  refine ok_cc i174_30 rfl (cl_s o174 m24_248 na166 rfl rfl (bt rfl) (bt rfl) rfl) ln166 (pd166 (aI x) (aI (t.1 + 3)) (aR V9)) <| (Ok.deep (t166_3 (p := t.1) hS9 ⟨(hK10.k (by omega)).trans hO10.1, (hK10.l (by omega)).trans hO10.2.1, fun i => by rw [hK10.m (by omega) hf10]; exact hO10.2.2 i⟩ ⟨(hK10.k (by omega)).trans hT10.1, (hK10.l (by omega)).trans hT10.2.1, fun i => by rw [hK10.m (by omega) hf10x]; exact hT10.2.2 i⟩ hx hy hz3 ⟨by omega, by omega⟩ (by omega)) (by omega)).mono (fun o9 g10k M10k p10k => ?_)
  obtain ⟨rfl, eg10k, em10k⟩ := p10k
  rw [eg10k, em10k]
  refine kt_v (pc' := 33) rfl <| ok_pop (pc' := 34) i174_33 rfl rfl <| ok_goto (pc' := 48) i174_34 rfl <| ok_aloadn (pc' := 49) i174_48 rfl rfl <| ok_iloadn (pc' := 50) i174_49 rfl rfl <| ok_putfj (kk := 3) (pc' := 53) i174_50 o174 pi174_79 (hS9.k) rfl rfl <| ok_aloadn (pc' := 54) i174_53 rfl rfl <| ok_aret i174_54 (by rw [rt174]) <| ?_
  refine kt_v (pc' := 5) rfl <| ok_pop (pc' := 6) i184_5 rfl rfl <| ok_aloadn (pc' := 7) i184_6 rfl rfl <| ok_aret i184_7 (by rw [rt184]) <| ?_
  rw [sayN_3 hx hy hz3]
  exact ⟨rfl, _, _, sb_e3 hS9 (by omega) (by omega) (by omega) (by omega), Gr.w ((((hG9.upV).upV).upV).upB) (by show t.1 + 3 ≤ t.1 + 1 + 1 + 1; omega)⟩
/-- append of a number -/
theorem sbI {g : AG} {M : AM} {B V : Nat} {C : Int} {t : Tx} {x : Int} (hS : SB g M B V C t) (hBS : BS g M) (hC : C ≤ 4000) (ht : t.1 ≤ 1990) (hx : 0 ≤ x ∧ x ≤ 999) : Ok 5 184 0 [aR B, aI x] [] g M (fun o g1 M1 => o = .inl (some (aR B)) ∧ ∃ (V1 : Nat) (C1 : Int), SB g1 M1 B V1 C1 (sayN t x) ∧ Gr g M g1 M1 B V V1 C C1 (sayN t x).1) := by
  by_cases h1 : x ≤ 9
  · exact sbI_1 hS hBS hC ht ⟨hx.1, h1⟩
  · by_cases h2 : x ≤ 99
    · exact sbI_2 hS hBS hC ht ⟨by omega, h2⟩
    · exact sbI_3 (y := x / 100) (z := x % 100) hS hBS hC ht (by omega) (by omega) (by omega)
/-- append of a string -/
theorem sbS {g : AG} {M : AM} {B V : Nat} {C : Int} {t : Tx} {a n : Nat} {m : Int} {tx : Int → Int} (hS : SB g M B V C t) (hStr : ShStr g a n) (hnm : (n : Int) = m) (ha0 : 10 ≤ a ∧ a < 42) (ha : a + 1 < 100) (hm : 0 ≤ m ∧ m ≤ 20) (hT : ∀ i : Int, 0 ≤ i → i < m → M (a + 1) i = tx i ∧ 0 ≤ tx i ∧ tx i ≤ 127) (hC : C ≤ 4000) (ht : t.1 ≤ 1900) : Ok 7 183 0 [aR B, aR a] [] g M (fun o g1 M1 => o = .inl (some (aR B)) ∧ ∃ (V1 : Nat) (C1 : Int), SB g1 M1 B V1 C1 (sayW t tx n) ∧ Gr g M g1 M1 B V V1 C C1 (sayW t tx n).1) := by
  have hz := hS.z
  have hA := hS.a
  refine ok_aloadn (pc' := 1) i183_0 rfl rfl <| ok_aloadn (pc' := 2) i183_1 rfl rfl <| ok_cc i183_2 rfl (cl_w o183 m18_29 na168 rfl rfl (bt rfl) (bt rfl) rfl hS.k) ln168 (pd168 (aR B) (aR a)) <| ok_aloadn (pc' := 1) i168_0 rfl rfl <| ok_ifnn0 (pc1 := 9) i168_1 (Or.inr ⟨by omega, by omega⟩) rfl <| ok_aloadn (pc' := 10) i168_9 rfl rfl <| ok_cc i168_10 rfl (cl_v o168 m24_32 na1 rfl rfl (bt rfl) (bt rfl) rfl (by rw [hStr.1, o1])) ln1 (pd1 (aR a)) <| ok_aloadn (pc' := 1) i1_0 rfl rfl <| ?_
  refine ok_getfs (r := a + 1) (pc' := 4) i1_1 o1 hStr.1 hStr.2.1 rfl <| ok_arrlen (v := m) (pc' := 5) i1_4 (hStr.2.2.1) (by decide) ((show ((gL g (a + 1) : Nat) : Int) = m by rw [hStr.2.2.2]; exact hnm)) rfl <| ok_aloadn (pc' := 6) i1_5 rfl rfl <| ok_cc i1_6 rfl (cl_v o1 m14_335 na4 rfl rfl (bt rfl) (bt rfl) rfl (by rw [hStr.1, o4])) ln4 (pd4 (aR a)) <| ok_gst1 (pc' := 3) i4_0 o4 rfl <| ok_kz0 (pc1 := 13) (pc2 := 6) i4_3 (by decide) rfl rfl <| ok_aloadn (pc' := 7) i4_6 rfl rfl <| ok_getfc (pc' := 10) i4_7 o4 hStr.1 rfl <| ?_
  refine ok_goto (pc' := 14) i4_10 rfl <| ok_iretb i4_14 rt4 (by decide) <| kt_v (pc' := 9) rfl <| ok_ishr (v := m) (pc' := 10) i1_9 (shr0 (by omega)) rfl <| ok_ireti i1_10 rt1 <| kt_v (pc' := 13) rfl <| ok_istoren (pc' := 14) (ls' := [aR B, aR a, aI m]) i168_13 (bt rfl) rfl rfl <| ok_aloadn (pc' := 15) i168_14 rfl rfl <| ?_
  refine ok_aloadn (pc' := 16) i168_15 rfl rfl <| ok_getfi (v := t.1) (pc' := 19) i168_16 o168 gi24_79 (hS.k) (hS.n) rfl <| ok_iloadn (pc' := 20) i168_19 rfl rfl <| ok_iadd (v := (t.1 + m)) (pc' := 21) i168_20 rfl rfl <| ?_
  refine ok_cc i168_21 rfl (cl_u o168 m24_100 na169 rfl rfl (bt rfl) (bt rfl) rfl hS.k) ln169 (pd169 (aR B) (aI (t.1 + m))) <| (Ok.deep (t169 (m := (t.1 + m)) hS (by omega) (by omega)) (by omega)).mono (fun o9 g11e M11e p11e => ?_)
  obtain ⟨rfl, V11, C11, hS11, hm11, hG11⟩ := p11e
  have hz11 := hS11.z
  have hg11 := hG11.2.2
  have hc11 : C ≤ C11 ∧ C11 ≤ 8000 := by omega
  have hStr11 := hStr.fr hG11.1 ha (fb_no hA.1 hA.2.2.1 (by omega))
  have hTx11 : ∀ i : Int, 0 ≤ i → i < m → M11e (a + 1) i = tx i ∧ 0 ≤ tx i ∧ tx i ≤ 127 := fun i i0 i1 => by rw [hG11.1.m (by omega) (fb_no hA.1 hA.2.2.1 ha)]; exact hT i i0 i1
  refine kt_0 (pc' := 24) rfl <| ok_aloadn (pc' := 25) i168_24 rfl rfl <| ok_aloadn (pc' := 26) i168_25 rfl rfl <| ok_getfi (v := t.1) (pc' := 29) i168_26 o168 gi24_79 (hS11.k) (hS11.n) rfl <| ok_aloadn (pc' := 30) i168_29 rfl rfl <| ok_cc i168_30 rfl (cl_u o168 m24_208 na172 rfl rfl (bt rfl) (bt rfl) rfl hS11.k) ln172 (pd172 (aR B) (aI t.1) (aR a)) <| ok_aloadn (pc' := 1) i172_0 rfl rfl <| ok_aloadn (pc' := 2) i172_1 rfl rfl <| ?_
  refine ok_cc i172_2 rfl (cl_u o172 m24_397 na173 rfl rfl (bt rfl) (bt rfl) rfl hS11.k) ln173 (pd173 (aR B) (aR a)) <| ok_gsta (pc' := 3) i173_0 o173 rfl <| ok_kz0 (pc1 := 21) (pc2 := 6) i173_3 (by decide) rfl rfl <| ok_aloadn (pc' := 7) i173_6 rfl rfl <| ok_getfi (v := 0) (pc' := 10) i173_7 o173 gi24_22 (hS11.k) (hS11.c) rfl <| ok_aloadn (pc' := 11) i173_10 rfl rfl <| ok_cc i173_11 rfl (cl_v o173 m24_40 na4 rfl rfl (bt rfl) (bt rfl) rfl (by rw [hStr11.1, o4])) ln4 (pd4 (aR a)) <| ok_gst1 (pc' := 3) i4_0 o4 rfl <| ?_
  refine ok_kz0 (pc1 := 13) (pc2 := 6) i4_3 (by decide) rfl rfl <| ok_aloadn (pc' := 7) i4_6 rfl rfl <| ok_getfc (pc' := 10) i4_7 o4 hStr11.1 rfl <| ok_goto (pc' := 14) i4_10 rfl <| ok_iretb i4_14 rt4 (by decide) <| kt_v (pc' := 14) rfl <| ok_kc1 (pc1 := 21) (pc2 := 17) i173_14 (by decide) rfl rfl <| ok_vret i173_21 rt173 <| ?_
  refine kt_0 (pc' := 5) rfl <| ok_aloadn (pc' := 6) i172_5 rfl rfl <| ok_aloadn (pc' := 7) i172_6 rfl rfl <| ok_getfr (r := V11) (pc' := 10) i172_7 o172 gr24_15 (hS11.k) (hS11.r) rfl <| ok_iloadn (pc' := 11) i172_10 rfl rfl <| ok_aloadn (pc' := 12) i172_11 rfl rfl <| ok_getfi (v := 0) (pc' := 15) i172_12 o172 gi24_22 (hS11.k) (hS11.c) rfl <| ok_cc i172_15 rfl (cl_v o172 m24_399 na156 rfl rfl (bt rfl) (bt rfl) rfl (by rw [hStr11.1, o156])) ln156 (pd156 (aR a) (aR V11) (aI t.1) (aI 0)) <| ?_
  refine ok_aloadn (pc' := 1) i156_0 rfl rfl <| ok_cc i156_1 rfl (cl_v o156 m14_335 na4 rfl rfl (bt rfl) (bt rfl) rfl (by rw [hStr11.1, o4])) ln4 (pd4 (aR a)) <| ok_gst1 (pc' := 3) i4_0 o4 rfl <| ok_kz0 (pc1 := 13) (pc2 := 6) i4_3 (by decide) rfl rfl <| ok_aloadn (pc' := 7) i4_6 rfl rfl <| ok_getfc (pc' := 10) i4_7 o4 hStr11.1 rfl <| ok_goto (pc' := 14) i4_10 rfl <| ok_iretb i4_14 rt4 (by decide) <| ?_
  refine kt_v (pc' := 4) rfl <| ok_iloadn (pc' := 5) i156_4 rfl rfl <| ok_kc0 (pc1 := 28) (pc2 := 8) i156_5 (by decide) rfl rfl <| ok_aloadn (pc' := 9) i156_8 rfl rfl <| ok_getfs (r := a + 1) (pc' := 12) i156_9 o156 hStr11.1 hStr11.2.1 rfl <| ok_iconst (pc' := 13) i156_12 rfl <| ok_aloadn (pc' := 14) i156_13 rfl rfl <| ok_iloadn (pc' := 15) i156_14 rfl rfl <| ?_
  refine ok_iloadn (pc' := 16) i156_15 rfl rfl <| ok_ishl (v := t.1) (pc' := 17) i156_16 (shl0 (by omega)) rfl <| ok_aloadn (pc' := 18) i156_17 rfl rfl <| ok_getfs (r := a + 1) (pc' := 21) i156_18 o156 hStr11.1 hStr11.2.1 rfl <| ok_arrlen (v := m) (pc' := 22) i156_21 (hStr11.2.2.1) (by decide) ((show ((gL g11e (a + 1) : Nat) : Int) = m by rw [hStr11.2.2.2]; exact hnm)) rfl <| ?_
  have hl9 : ((gL g11e V11 : Nat) : Int) = C11 := hS11.l
  have hk9 := hStr11.2.2.1
  have hL9 : ((gL g11e (a + 1) : Nat) : Int) = m := by rw [hStr11.2.2.2]; exact hnm
  refine ok_bcopy (pc' := 25) i156_22 o156 m14_212 hS11.v (Or.inr hk9) rfl rfl (by omega) (bt rfl) rfl <| ok_goto (pc' := 43) i156_25 rfl <| ok_vret i156_43 rt156 <| kt_0 (pc' := 18) rfl <| ok_vret i172_18 rt172 <| kt_0 (pc' := 33) rfl <| ok_aloadn (pc' := 34) i168_33 rfl rfl <| ok_dup (pc' := 35) i168_34 rfl rfl <| ?_
  refine ok_getfi (v := t.1) (pc' := 38) i168_35 o168 gi24_79 (hS11.k) ((rd_nM hS11.d hS11.n)) rfl <| ok_iloadn (pc' := 39) i168_38 rfl rfl <| ok_iadd (v := (t.1 + m)) (pc' := 40) i168_39 rfl rfl <| ok_putfj (kk := 3) (pc' := 43) i168_40 o168 pi168_79 (hS11.k) rfl rfl <| ok_aloadn (pc' := 44) i168_43 rfl rfl <| ok_aret i168_44 (by rw [rt168]) <| kt_v (pc' := 5) rfl <| ok_pop (pc' := 6) i183_5 rfl rfl <| ?_
  refine ok_aloadn (pc' := 7) i183_6 rfl rfl <| ok_aret i183_7 (by rw [rt183]) <| ?_
  exact ⟨rfl, _, _, sb_eW hS11 hnm (by omega) hTx11, Gr.w (hG11.upMV.upB) (by rw [sayW_1]; omega)⟩
