/-! TEXTS (by program, wip/p60/gen) -/
theorem o218 : am_oc 218 = 13 := by decide +kernel
theorem m13_328 : am_mlk 13 328 0 184 = true := by decide +kernel
theorem na184 : am_na 184 = 1 := by decide +kernel
theorem nl184 : am_nL 184 = 2 := by decide +kernel
theorem pd184 : ∀ a0 a1 : AV, am_pad 184 [a0, a1] = [a0, a1] := by intros; unfold am_pad; rw [nl184]; rfl
theorem ln184 : 2 ≤ am_nL 184 := by rw [nl184]; decide
theorem m13_325 : am_mlk 13 325 0 185 = true := by decide +kernel
theorem na185 : am_na 185 = 1 := by decide +kernel
theorem nl185 : am_nL 185 = 2 := by decide +kernel
theorem pd185 : ∀ a0 a1 : AV, am_pad 185 [a0, a1] = [a0, a1] := by intros; unfold am_pad; rw [nl185]; rfl
theorem ln185 : 2 ≤ am_nL 185 := by rw [nl185]; decide
theorem m13_331 : am_mlk 13 331 0 139 = true := by decide +kernel
theorem na139 : am_na 139 = 0 := by decide +kernel
theorem nl139 : am_nL 139 = 2 := by decide +kernel
theorem pd139 : ∀ a0 : AV, am_pad 139 [a0] = [a0, aU] := by intros; unfold am_pad; rw [nl139]; rfl
theorem ln139 : 1 ≤ am_nL 139 := by rw [nl139]; decide
theorem m13_334 : am_mlk 13 334 1 219 = true := by decide +kernel
theorem na219 : am_na 219 = 2 := by decide +kernel
theorem nl219 : am_nL 219 = 3 := by decide +kernel
theorem pd219 : ∀ a0 a1 : AV, am_pad 219 [a0, a1] = [a0, a1, aU] := by intros; unfold am_pad; rw [nl219]; rfl
theorem ln219 : 2 ≤ am_nL 219 := by rw [nl219]; decide
theorem m13_338 : am_mlk 13 338 0 189 = true := by decide +kernel
theorem na189 : am_na 189 = 1 := by decide +kernel
theorem nl189 : am_nL 189 = 2 := by decide +kernel
theorem pd189 : ∀ a0 a1 : AV, am_pad 189 [a0, a1] = [a0, a1] := by intros; unfold am_pad; rw [nl189]; rfl
theorem ln189 : 2 ≤ am_nL 189 := by rw [nl189]; decide
theorem sr13_341 : (am_sr 13 341).map (fun q => q.2.1) = some 38 := by decide +kernel
theorem m13_343 : am_mlk 13 343 0 183 = true := by decide +kernel
theorem na183 : am_na 183 = 1 := by decide +kernel
theorem nl183 : am_nL 183 = 2 := by decide +kernel
theorem pd183 : ∀ a0 a1 : AV, am_pad 183 [a0, a1] = [a0, a1] := by intros; unfold am_pad; rw [nl183]; rfl
theorem ln183 : 2 ≤ am_nL 183 := by rw [nl183]; decide
theorem m13_77 : am_mlk 13 77 0 141 = true := by decide +kernel
theorem na141 : am_na 141 = 1 := by decide +kernel
theorem nl141 : am_nL 141 = 2 := by decide +kernel
theorem pd141 : ∀ a0 a1 : AV, am_pad 141 [a0, a1] = [a0, a1] := by intros; unfold am_pad; rw [nl141]; rfl
theorem ln141 : 2 ≤ am_nL 141 := by rw [nl141]; decide
theorem sr13_346 : (am_sr 13 346).map (fun q => q.2.1) = some 40 := by decide +kernel
theorem stx_14 (i : Int) (h0 : 0 ≤ i) (h1 : i < 2) : 0 ≤ stx 14 i ∧ stx 14 i ≤ 127 := by
  rcases (show i = 0 ∨ i = 1 by omega) with h | h <;> subst h <;> decide
theorem stx_15 (i : Int) (h0 : 0 ≤ i) (h1 : i < 5) : 0 ≤ stx 15 i ∧ stx 15 i ≤ 127 := by
  rcases (show i = 0 ∨ i = 1 ∨ i = 2 ∨ i = 3 ∨ i = 4 by omega) with h | h | h | h | h <;> subst h <;> decide
theorem TS.new {g0 g1 g2 : AG} {M0 M1 M2 : AM} {O B V sl : Nat} {b : Int} {q s : Int → Int} (hx : 100 + gN g0 = B) (hn : gN g1 = gN g0 + 1) (e : Fr FN 1 sl g0 M0 g1 M1) (hsl : sl ≤ 60) (hV : V = 100 + gN g1) (hS : SB g2 M2 B V 16 t00) (e2 : Fr (fun c => c = B) 1 16 g1 M1 g2 M2) (ho : 111 ≤ O) (hW : CW g0 M0 O b q s) (hBS : BS g0 M0) : TS g0 M0 O b q s g2 M2 B V 16 t00 2 64 := by
  have hO := hW.2.2
  exact ⟨hS, Fr.w (Fr.tr2 e.of0 e2 (fun c c0 hc => by exfalso; have h9 : c = B := hc; omega)) (by omega) (by omega), ⟨by omega, by omega⟩, by omega, (hW.f0 e).fr e2 (fun c c0 c1 hc => by have h9 : c = B := hc; omega), (hBS.fr e (fun _ _ h => h)).fr e2 (fun c c0 hc => by have h9 : c = B := hc; omega), ho, hO⟩
theorem w218_10 {g0 : AG} {M0 : AM} {O : Nat} {A : YA} {s q : Int → Int} {b : Int} {d : Nat} {Q : AO → AG → AM → Prop} {B : Nat} {g : AG} {M : AM} {V : Nat} {C : Int} (hY0 : Yd g0 M0 O A s q) (hV : Val b q s) (h40 : s 3 ≤ 40) (hT : TS g0 M0 O b q s g M B V C t00 2 64) (K : ∀ (g : AG) (M : AM) (V : Nat) (C : Int), TS g0 M0 O b q s g M B V C (itv (rodsX s) t00 0 (s 3).toNat) 202 64 → Ok (d + 14) 218 95 [aR O, aR 101, aR B, aI (s 3), aU] [] g M Q) : Ok (d + 14) 218 10 [aR O, aR 101, aR B, aI 0, aU] [] g M Q := by
  have y3 := V_3 hV
  have y4 := V_4 hV
  have y5 := V_5 hV
  have hQ := V_q hV
  have yq0 := Q_0 hQ
  have yq1 := Q_1 hQ
  refine ok_lp (σ := Nat) (fun n ls g9 M9 => n ≤ (s 3).toNat ∧ ∃ (i : Int) (V : Nat) (C : Int), i = (n : Int) ∧ TS g0 M0 O b q s g9 M9 B V C (itv (rodsX s) t00 0 n) (2 + 5 * n) 64 ∧ ls = [aR O, aR 101, aR B, aI i, aU]) (fun n => (s 3).toNat - n) ?_ 0 _ g M ⟨Nat.zero_le _, 0, V, C, rfl, hT, rfl⟩
  rintro n ls g M ⟨hn, i, V, C, hi, hT, rfl⟩ ih
  have hYt0 := TS.y hT hY0
  have hWt0 := TS.w hT
  have hct0 := TS.c hT
  have hzt0 := (TS.sb hT).z
  have hro := rods_ok hV h40 n (by omega)
  by_cases hi9 : i = s 3
  · have hn9 : n = (s 3).toNat := by omega
    subst hn9
    subst hi9
    have hT0 := TS.up hT (nc' := 202) (ns' := 64) (by omega) (by omega)
    refine ok_iloadn (pc' := 11) i218_10 rfl rfl <| ok_aloadn (pc' := 12) i218_11 rfl rfl <| ok_getfi (v := (s 3)) (pc' := 15) i218_12 o218 gi13_152 (hYt0.gr.ky) ((Yd.n3 hYt0)) rfl <| ?_
    refine ok_cge (pc1 := 95) (pc2 := 18) i218_15 (by omega) rfl rfl (fun h1 => ?_) (fun h9 => by exfalso; omega)
    exact K _ _ _ _ hT0
  have hi2 : 0 ≤ i ∧ i < s 3 := by omega
  obtain ⟨t, ht⟩ : ∃ z : Tx, z = itv (rodsX s) t00 0 n := ⟨_, rfl⟩
  rw [← ht] at hT hzt0 hro
  have hro1 := hro.1
  refine ok_iloadn (pc' := 11) i218_10 rfl rfl <| ok_aloadn (pc' := 12) i218_11 rfl rfl <| ok_getfi (v := (s 3)) (pc' := 15) i218_12 o218 gi13_152 (hYt0.gr.ky) ((Yd.n3 hYt0)) rfl <| ?_
  refine ok_cge (pc1 := 95) (pc2 := 18) i218_15 (by omega) rfl rfl (fun h9 => by exfalso; omega) (fun h1 => ?_)
  refine ok_aloadn (pc' := 19) i218_18 rfl rfl <| ok_getfr (r := 107) (pc' := 22) i218_19 o218 gr13_168 (hYt0.gr.ky) (hYt0.gr.r4) rfl <| ok_iloadn (pc' := 23) i218_22 rfl rfl <| ok_aaload (r := (A.R i)) (pc' := 24) i218_23 (hYt0.gr.k7) (by decide) (hYt0.gr.l7) (by omega) ((hYt0.gr.rr i (by omega) (by omega)).1) rfl <| ?_
  have z2 : 0 ≤ s (174 + i) ∧ s (174 + i) ≤ 2 := V_d2 hV (by omega) (by omega)
  refine ok_getfi (v := (s (174 + i))) (pc' := 27) i218_24 o218 gi13_178 ((hYt0.gr.rr i (by omega) (by omega)).2.2) ((Yd.r3 hYt0 (k := i) (by omega) (by omega))) rfl <| ?_
  refine ok_zeq (pc1 := 33) (pc2 := 30) i218_27 (by omega) rfl rfl (fun h3 => ?_) (fun h3 => ?_)
  · refine ok_aloadn (pc' := 34) i218_33 rfl rfl <| ?_
    refine ok_cc i218_34 rfl (cl_v o218 m13_320 na187 rfl rfl (bt rfl) (bt rfl) rfl (by rw [(TS.sb hT).k, o187])) ln187 (pd187 (aR B)) <| (Ok.deep (sbL (TS.sb hT)) (by omega)).mono (fun o9 g18l M18l p18l => ?_)
    obtain ⟨rfl, eg18l, em18l⟩ := p18l
    rw [eg18l, em18l]
    refine kt_v (pc' := 37) rfl <| ?_
    refine ok_zle (pc1 := 47) (pc2 := 40) i218_37 (by omega) rfl rfl (fun h4 => ?_) (fun h4 => ?_)
    · refine ok_aloadn (pc' := 48) i218_47 rfl rfl <| ok_iloadn (pc' := 49) i218_48 rfl rfl <| ?_
      refine ok_cc i218_49 rfl (cl_v o218 m13_328 na184 rfl rfl (bt rfl) (bt rfl) rfl (by rw [(TS.sb hT).k, o184])) ln184 (pd184 (aR B) (aI i)) <| (Ok.deep (sbI (x := i) (TS.sb hT) (TS.bs hT) (by omega) (by omega) (by omega)) (by omega)).mono (fun o9 g19p M19p p19p => ?_)
      obtain ⟨rfl, V19, C19, hSp19, hGp19⟩ := p19p
      have hT19 := TS.ap hT hSp19 hGp19 (by have := (sayN_1 (t := t) (v := i)).2; omega)
      obtain ⟨t19, ht19⟩ : ∃ z : Tx, z = sayN t i := ⟨_, rfl⟩
      rw [← ht19] at hT19
      clear hSp19 hGp19
      have hl19 : t.1 + 1 ≤ t19.1 ∧ t19.1 ≤ t.1 + 3 := by rw [ht19]; exact sayN_1
      have hYt19 := TS.y hT19 hY0
      have hWt19 := TS.w hT19
      have hct19 := TS.c hT19
      have hzt19 := (TS.sb hT19).z
      refine kt_v (pc' := 52) rfl <| ok_bipush (v := 58) (pc' := 54) i218_52 rfl rfl <| ?_
      refine ok_cc i218_54 rfl (cl_v o218 m13_325 na185 rfl rfl (bt rfl) (bt rfl) rfl (by rw [(TS.sb hT19).k, o185])) ln185 (pd185 (aR B) (aI 58)) <| (Ok.deep (sbC (c := 58) (TS.sb hT19) (by omega) (by omega) (by omega)) (by omega)).mono (fun o9 g20p M20p p20p => ?_)
      obtain ⟨rfl, V20, C20, hSp20, hGp20⟩ := p20p
      have hT20 := TS.ap hT19 hSp20 hGp20 (by omega)
      obtain ⟨t20, ht20⟩ : ∃ z : Tx, z = say t19 58 := ⟨_, rfl⟩
      rw [← ht20] at hT20
      clear hSp20 hGp20
      have hl20 : t20.1 = t19.1 + 1 := by rw [ht20]; rfl
      have hYt20 := TS.y hT20 hY0
      have hWt20 := TS.w hT20
      have hct20 := TS.c hT20
      have hzt20 := (TS.sb hT20).z
      refine kt_v (pc' := 57) rfl <| ok_aloadn (pc' := 58) i218_57 rfl rfl <| ok_getfr (r := 107) (pc' := 61) i218_58 o218 gr13_168 (hYt20.gr.ky) (hYt20.gr.r4) rfl <| ok_iloadn (pc' := 62) i218_61 rfl rfl <| ok_aaload (r := (A.R i)) (pc' := 63) i218_62 (hYt20.gr.k7) (by decide) (hYt20.gr.l7) (by omega) ((hYt20.gr.rr i (by omega) (by omega)).1) rfl <| ?_
      have z5 : 0 ≤ s (94 + i) ∧ s (94 + i) ≤ 200 := V_d1 hV (by omega) (by omega)
      refine ok_getfi (v := (s (94 + i))) (pc' := 66) i218_63 o218 gi13_176 ((hYt20.gr.rr i (by omega) (by omega)).2.2) ((Yd.r2 hYt20 (k := i) (by omega) (by omega))) rfl <| ?_
      refine ok_cc i218_66 rfl (cl_v o218 m13_328 na184 rfl rfl (bt rfl) (bt rfl) rfl (by rw [(TS.sb hT20).k, o184])) ln184 (pd184 (aR B) (aI (s (94 + i)))) <| (Ok.deep (sbI (x := (s (94 + i))) (TS.sb hT20) (TS.bs hT20) (by omega) (by omega) (by omega)) (by omega)).mono (fun o9 g21p M21p p21p => ?_)
      obtain ⟨rfl, V21, C21, hSp21, hGp21⟩ := p21p
      have hT21 := TS.ap hT20 hSp21 hGp21 (by have := (sayN_1 (t := t20) (v := (s (94 + i)))).2; omega)
      obtain ⟨t21, ht21⟩ : ∃ z : Tx, z = sayN t20 (s (94 + i)) := ⟨_, rfl⟩
      rw [← ht21] at hT21
      clear hSp21 hGp21
      have hl21 : t20.1 + 1 ≤ t21.1 ∧ t21.1 ≤ t20.1 + 3 := by rw [ht21]; exact sayN_1
      have hYt21 := TS.y hT21 hY0
      have hWt21 := TS.w hT21
      have hct21 := TS.c hT21
      have hzt21 := (TS.sb hT21).z
      refine kt_v (pc' := 69) rfl <| ok_pop (pc' := 70) i218_69 rfl rfl <| ok_aloadn (pc' := 71) i218_70 rfl rfl <| ok_getfr (r := 107) (pc' := 74) i218_71 o218 gr13_168 (hYt21.gr.ky) (hYt21.gr.r4) rfl <| ok_iloadn (pc' := 75) i218_74 rfl rfl <| ok_aaload (r := (A.R i)) (pc' := 76) i218_75 (hYt21.gr.k7) (by decide) (hYt21.gr.l7) (by omega) ((hYt21.gr.rr i (by omega) (by omega)).1) rfl <| ?_
      have z6 : 0 ≤ s (334 + i) ∧ s (334 + i) ≤ 1 := V_d4 hV (by omega) (by omega)
      refine ok_getfi (v := (s (334 + i))) (pc' := 79) i218_76 o218 gi13_184 ((hYt21.gr.rr i (by omega) (by omega)).2.2) ((Yd.r5 hYt21 (k := i) (by omega) (by omega))) rfl <| ?_
      refine ok_zeq (pc1 := 89) (pc2 := 82) i218_79 (by omega) rfl rfl (fun h7 => ?_) (fun h7 => ?_)
      · refine ok_iinc (pc' := 92) (v := (i + 1)) (ls' := [aR O, aR 101, aR B, aI (i + 1), aU]) i218_89 rfl rfl rfl rfl <| ok_goto (pc' := 10) i218_92 rfl <| ?_
        have hz9 : rodsX s i t = t21 := by rw [ht21, ht20, ht19]; unfold rodsX rodX; (repeat' split) <;> first | rfl | (exfalso; omega)
        exact ih (n + 1) _ _ _ (by omega) ⟨by omega, i + 1, _, _, by omega, by rw [itv_1 hi, ← ht, hz9]; exact TS.up hT21 (by omega) (by omega), rfl⟩
      · refine ok_aloadn (pc' := 83) i218_82 rfl rfl <| ok_bipush (v := 42) (pc' := 85) i218_83 rfl rfl <| ?_
        refine ok_cc i218_85 rfl (cl_v o218 m13_325 na185 rfl rfl (bt rfl) (bt rfl) rfl (by rw [(TS.sb hT21).k, o185])) ln185 (pd185 (aR B) (aI 42)) <| (Ok.deep (sbC (c := 42) (TS.sb hT21) (by omega) (by omega) (by omega)) (by omega)).mono (fun o9 g22p M22p p22p => ?_)
        obtain ⟨rfl, V22, C22, hSp22, hGp22⟩ := p22p
        have hT22 := TS.ap hT21 hSp22 hGp22 (by omega)
        obtain ⟨t22, ht22⟩ : ∃ z : Tx, z = say t21 42 := ⟨_, rfl⟩
        rw [← ht22] at hT22
        clear hSp22 hGp22
        have hl22 : t22.1 = t21.1 + 1 := by rw [ht22]; rfl
        have hYt22 := TS.y hT22 hY0
        have hWt22 := TS.w hT22
        have hct22 := TS.c hT22
        have hzt22 := (TS.sb hT22).z
        refine kt_v (pc' := 88) rfl <| ok_pop (pc' := 89) i218_88 rfl rfl <| ok_iinc (pc' := 92) (v := (i + 1)) (ls' := [aR O, aR 101, aR B, aI (i + 1), aU]) i218_89 rfl rfl rfl rfl <| ok_goto (pc' := 10) i218_92 rfl <| ?_
        have hz9 : rodsX s i t = t22 := by rw [ht22, ht21, ht20, ht19]; unfold rodsX rodX; (repeat' split) <;> first | rfl | (exfalso; omega)
        exact ih (n + 1) _ _ _ (by omega) ⟨by omega, i + 1, _, _, by omega, by rw [itv_1 hi, ← ht, hz9]; exact TS.up hT22 (by omega) (by omega), rfl⟩
    · refine ok_aloadn (pc' := 41) i218_40 rfl rfl <| ok_bipush (v := 44) (pc' := 43) i218_41 rfl rfl <| ?_
      refine ok_cc i218_43 rfl (cl_v o218 m13_325 na185 rfl rfl (bt rfl) (bt rfl) rfl (by rw [(TS.sb hT).k, o185])) ln185 (pd185 (aR B) (aI 44)) <| (Ok.deep (sbC (c := 44) (TS.sb hT) (by omega) (by omega) (by omega)) (by omega)).mono (fun o9 g23p M23p p23p => ?_)
      obtain ⟨rfl, V23, C23, hSp23, hGp23⟩ := p23p
      have hT23 := TS.ap hT hSp23 hGp23 (by omega)
      obtain ⟨t23, ht23⟩ : ∃ z : Tx, z = say t 44 := ⟨_, rfl⟩
      rw [← ht23] at hT23
      clear hSp23 hGp23
      have hl23 : t23.1 = t.1 + 1 := by rw [ht23]; rfl
      have hYt23 := TS.y hT23 hY0
      have hWt23 := TS.w hT23
      have hct23 := TS.c hT23
      have hzt23 := (TS.sb hT23).z
      refine kt_v (pc' := 46) rfl <| ok_pop (pc' := 47) i218_46 rfl rfl <| ok_aloadn (pc' := 48) i218_47 rfl rfl <| ok_iloadn (pc' := 49) i218_48 rfl rfl <| ?_
      refine ok_cc i218_49 rfl (cl_v o218 m13_328 na184 rfl rfl (bt rfl) (bt rfl) rfl (by rw [(TS.sb hT23).k, o184])) ln184 (pd184 (aR B) (aI i)) <| (Ok.deep (sbI (x := i) (TS.sb hT23) (TS.bs hT23) (by omega) (by omega) (by omega)) (by omega)).mono (fun o9 g24p M24p p24p => ?_)
      obtain ⟨rfl, V24, C24, hSp24, hGp24⟩ := p24p
      have hT24 := TS.ap hT23 hSp24 hGp24 (by have := (sayN_1 (t := t23) (v := i)).2; omega)
      obtain ⟨t24, ht24⟩ : ∃ z : Tx, z = sayN t23 i := ⟨_, rfl⟩
      rw [← ht24] at hT24
      clear hSp24 hGp24
      have hl24 : t23.1 + 1 ≤ t24.1 ∧ t24.1 ≤ t23.1 + 3 := by rw [ht24]; exact sayN_1
      have hYt24 := TS.y hT24 hY0
      have hWt24 := TS.w hT24
      have hct24 := TS.c hT24
      have hzt24 := (TS.sb hT24).z
      refine kt_v (pc' := 52) rfl <| ok_bipush (v := 58) (pc' := 54) i218_52 rfl rfl <| ?_
      refine ok_cc i218_54 rfl (cl_v o218 m13_325 na185 rfl rfl (bt rfl) (bt rfl) rfl (by rw [(TS.sb hT24).k, o185])) ln185 (pd185 (aR B) (aI 58)) <| (Ok.deep (sbC (c := 58) (TS.sb hT24) (by omega) (by omega) (by omega)) (by omega)).mono (fun o9 g25p M25p p25p => ?_)
      obtain ⟨rfl, V25, C25, hSp25, hGp25⟩ := p25p
      have hT25 := TS.ap hT24 hSp25 hGp25 (by omega)
      obtain ⟨t25, ht25⟩ : ∃ z : Tx, z = say t24 58 := ⟨_, rfl⟩
      rw [← ht25] at hT25
      clear hSp25 hGp25
      have hl25 : t25.1 = t24.1 + 1 := by rw [ht25]; rfl
      have hYt25 := TS.y hT25 hY0
      have hWt25 := TS.w hT25
      have hct25 := TS.c hT25
      have hzt25 := (TS.sb hT25).z
      refine kt_v (pc' := 57) rfl <| ok_aloadn (pc' := 58) i218_57 rfl rfl <| ok_getfr (r := 107) (pc' := 61) i218_58 o218 gr13_168 (hYt25.gr.ky) (hYt25.gr.r4) rfl <| ok_iloadn (pc' := 62) i218_61 rfl rfl <| ok_aaload (r := (A.R i)) (pc' := 63) i218_62 (hYt25.gr.k7) (by decide) (hYt25.gr.l7) (by omega) ((hYt25.gr.rr i (by omega) (by omega)).1) rfl <| ?_
      have z8 : 0 ≤ s (94 + i) ∧ s (94 + i) ≤ 200 := V_d1 hV (by omega) (by omega)
      refine ok_getfi (v := (s (94 + i))) (pc' := 66) i218_63 o218 gi13_176 ((hYt25.gr.rr i (by omega) (by omega)).2.2) ((Yd.r2 hYt25 (k := i) (by omega) (by omega))) rfl <| ?_
      refine ok_cc i218_66 rfl (cl_v o218 m13_328 na184 rfl rfl (bt rfl) (bt rfl) rfl (by rw [(TS.sb hT25).k, o184])) ln184 (pd184 (aR B) (aI (s (94 + i)))) <| (Ok.deep (sbI (x := (s (94 + i))) (TS.sb hT25) (TS.bs hT25) (by omega) (by omega) (by omega)) (by omega)).mono (fun o9 g26p M26p p26p => ?_)
      obtain ⟨rfl, V26, C26, hSp26, hGp26⟩ := p26p
      have hT26 := TS.ap hT25 hSp26 hGp26 (by have := (sayN_1 (t := t25) (v := (s (94 + i)))).2; omega)
      obtain ⟨t26, ht26⟩ : ∃ z : Tx, z = sayN t25 (s (94 + i)) := ⟨_, rfl⟩
      rw [← ht26] at hT26
      clear hSp26 hGp26
      have hl26 : t25.1 + 1 ≤ t26.1 ∧ t26.1 ≤ t25.1 + 3 := by rw [ht26]; exact sayN_1
      have hYt26 := TS.y hT26 hY0
      have hWt26 := TS.w hT26
      have hct26 := TS.c hT26
      have hzt26 := (TS.sb hT26).z
      refine kt_v (pc' := 69) rfl <| ok_pop (pc' := 70) i218_69 rfl rfl <| ok_aloadn (pc' := 71) i218_70 rfl rfl <| ok_getfr (r := 107) (pc' := 74) i218_71 o218 gr13_168 (hYt26.gr.ky) (hYt26.gr.r4) rfl <| ok_iloadn (pc' := 75) i218_74 rfl rfl <| ok_aaload (r := (A.R i)) (pc' := 76) i218_75 (hYt26.gr.k7) (by decide) (hYt26.gr.l7) (by omega) ((hYt26.gr.rr i (by omega) (by omega)).1) rfl <| ?_
      have z9 : 0 ≤ s (334 + i) ∧ s (334 + i) ≤ 1 := V_d4 hV (by omega) (by omega)
      refine ok_getfi (v := (s (334 + i))) (pc' := 79) i218_76 o218 gi13_184 ((hYt26.gr.rr i (by omega) (by omega)).2.2) ((Yd.r5 hYt26 (k := i) (by omega) (by omega))) rfl <| ?_
      refine ok_zeq (pc1 := 89) (pc2 := 82) i218_79 (by omega) rfl rfl (fun h10 => ?_) (fun h10 => ?_)
      · refine ok_iinc (pc' := 92) (v := (i + 1)) (ls' := [aR O, aR 101, aR B, aI (i + 1), aU]) i218_89 rfl rfl rfl rfl <| ok_goto (pc' := 10) i218_92 rfl <| ?_
        have hz9 : rodsX s i t = t26 := by rw [ht26, ht25, ht24, ht23]; unfold rodsX rodX; (repeat' split) <;> first | rfl | (exfalso; omega)
        exact ih (n + 1) _ _ _ (by omega) ⟨by omega, i + 1, _, _, by omega, by rw [itv_1 hi, ← ht, hz9]; exact TS.up hT26 (by omega) (by omega), rfl⟩
      · refine ok_aloadn (pc' := 83) i218_82 rfl rfl <| ok_bipush (v := 42) (pc' := 85) i218_83 rfl rfl <| ?_
        refine ok_cc i218_85 rfl (cl_v o218 m13_325 na185 rfl rfl (bt rfl) (bt rfl) rfl (by rw [(TS.sb hT26).k, o185])) ln185 (pd185 (aR B) (aI 42)) <| (Ok.deep (sbC (c := 42) (TS.sb hT26) (by omega) (by omega) (by omega)) (by omega)).mono (fun o9 g27p M27p p27p => ?_)
        obtain ⟨rfl, V27, C27, hSp27, hGp27⟩ := p27p
        have hT27 := TS.ap hT26 hSp27 hGp27 (by omega)
        obtain ⟨t27, ht27⟩ : ∃ z : Tx, z = say t26 42 := ⟨_, rfl⟩
        rw [← ht27] at hT27
        clear hSp27 hGp27
        have hl27 : t27.1 = t26.1 + 1 := by rw [ht27]; rfl
        have hYt27 := TS.y hT27 hY0
        have hWt27 := TS.w hT27
        have hct27 := TS.c hT27
        have hzt27 := (TS.sb hT27).z
        refine kt_v (pc' := 88) rfl <| ok_pop (pc' := 89) i218_88 rfl rfl <| ok_iinc (pc' := 92) (v := (i + 1)) (ls' := [aR O, aR 101, aR B, aI (i + 1), aU]) i218_89 rfl rfl rfl rfl <| ok_goto (pc' := 10) i218_92 rfl <| ?_
        have hz9 : rodsX s i t = t27 := by rw [ht27, ht26, ht25, ht24, ht23]; unfold rodsX rodX; (repeat' split) <;> first | rfl | (exfalso; omega)
        exact ih (n + 1) _ _ _ (by omega) ⟨by omega, i + 1, _, _, by omega, by rw [itv_1 hi, ← ht, hz9]; exact TS.up hT27 (by omega) (by omega), rfl⟩
  · refine ok_goto (pc' := 89) i218_30 rfl <| ok_iinc (pc' := 92) (v := (i + 1)) (ls' := [aR O, aR 101, aR B, aI (i + 1), aU]) i218_89 rfl rfl rfl rfl <| ok_goto (pc' := 10) i218_92 rfl <| ?_
    have hz9 : rodsX s i t = t := by unfold rodsX rodX; (repeat' split) <;> first | rfl | (exfalso; omega)
    exact ih (n + 1) _ _ _ (by omega) ⟨by omega, i + 1, _, _, by omega, by rw [itv_1 hi, ← ht, hz9]; exact TS.up hT (by omega) (by omega), rfl⟩
theorem w218_95 {g0 : AG} {M0 : AM} {O : Nat} {A : YA} {s q : Int → Int} {b : Int} {d : Nat} {Q : AO → AG → AM → Prop} {B : Nat} {g : AG} {M : AM} {V : Nat} {C : Int} (hY0 : Yd g0 M0 O A s q) (hV : Val b q s) (h40 : s 3 ≤ 40) (hT : TS g0 M0 O b q s g M B V C (itv (rodsX s) t00 0 (s 3).toNat) 202 64) (K : ∀ (g : AG) (M : AM) (V : Nat) (C : Int) (t : Tx), TS g0 M0 O b q s g M B V C t 204 70 → Ok (d + 14) 218 132 [aR O, aR 101, aR B, aI 0, aU] [] g M Q) : Ok (d + 14) 218 95 [aR O, aR 101, aR B, aI (s 3), aU] [] g M Q := by
  have y3 := V_3 hV
  have y4 := V_4 hV
  have y5 := V_5 hV
  have hQ := V_q hV
  have yq0 := Q_0 hQ
  have yq1 := Q_1 hQ
  have hro := rods_ok hV h40 (s 3).toNat (by omega)
  obtain ⟨t, ht⟩ : ∃ z : Tx, z = itv (rodsX s) t00 0 (s 3).toNat := ⟨_, rfl⟩
  rw [← ht] at hT hro
  have hro1 := hro.1
  have hYt0 := TS.y hT hY0
  have hWt0 := TS.w hT
  have hct0 := TS.c hT
  have hzt0 := (TS.sb hT).z
  by_cases h00 : t.1 = 0
  · skip
    refine ok_aloadn (pc' := 96) i218_95 rfl rfl <| ?_
    refine ok_cc i218_96 rfl (cl_v o218 m13_320 na187 rfl rfl (bt rfl) (bt rfl) rfl (by rw [(TS.sb hT).k, o187])) ln187 (pd187 (aR B)) <| (Ok.deep (sbL (TS.sb hT)) (by omega)).mono (fun o9 g28l M28l p28l => ?_)
    obtain ⟨rfl, eg28l, em28l⟩ := p28l
    rw [eg28l, em28l]
    refine kt_v (pc' := 99) rfl <| ?_
    refine ok_zne (pc1 := 109) (pc2 := 102) i218_99 (by omega) rfl rfl (fun h9 => by exfalso; omega) (fun h1 => ?_)
    refine ok_aloadn (pc' := 103) i218_102 rfl rfl <| ok_bipush (v := 45) (pc' := 105) i218_103 rfl rfl <| ?_
    refine ok_cc i218_105 rfl (cl_v o218 m13_325 na185 rfl rfl (bt rfl) (bt rfl) rfl (by rw [(TS.sb hT).k, o185])) ln185 (pd185 (aR B) (aI 45)) <| (Ok.deep (sbC (c := 45) (TS.sb hT) (by omega) (by omega) (by omega)) (by omega)).mono (fun o9 g29p M29p p29p => ?_)
    obtain ⟨rfl, V29, C29, hSp29, hGp29⟩ := p29p
    have hT29 := TS.ap hT hSp29 hGp29 (by omega)
    obtain ⟨t29, ht29⟩ : ∃ z : Tx, z = say t 45 := ⟨_, rfl⟩
    rw [← ht29] at hT29
    clear hSp29 hGp29
    have hl29 : t29.1 = t.1 + 1 := by rw [ht29]; rfl
    have hYt29 := TS.y hT29 hY0
    have hWt29 := TS.w hT29
    have hct29 := TS.c hT29
    have hzt29 := (TS.sb hT29).z
    refine kt_v (pc' := 108) rfl <| ok_pop (pc' := 109) i218_108 rfl rfl <| ok_aloadn (pc' := 110) i218_109 rfl rfl <| ?_
    have htx : t29 = textR s := by unfold textR; rw [← ht]; rw [ht29]; split <;> first | rfl | (exfalso; omega)
    have htl : t29.1 ≤ 320 := by rw [htx]; exact (textR_ok hV h40).1
    refine ok_cc i218_110 rfl (cl_v o218 m13_331 na139 rfl rfl (bt rfl) (bt rfl) rfl (by rw [(ShYard_k0 hWt29.1.y), o139])) ln139 (pd139 (aR O)) <| (Ok.deep (t139 (Y := O) (P := O + 38) (A := O + 49) (V := O + 73) (T := O + 74) (K := O + 100) (H := O + 102) (X := O + 346) hWt29.1.y hWt29.1.s hWt29.1.x hWt29.2.1.s hV hQ (Or.inr (by omega)) h40 hWt29.2.1.l) (by omega)).mono (fun o9 g30p M30p p30p => ?_)
    obtain ⟨rfl, eg30, hRT30, hex30⟩ := p30p
    rw [eg30]
    have hT30 := TS.tx hT29 hex30
    clear hex30
    have hYt30 := TS.y hT30 hY0
    have hWt30 := TS.w hT30
    have hct30 := TS.c hT30
    have hzt30 := (TS.sb hT30).z
    rw [← htx]
    refine kt_v (pc' := 113) rfl <| ok_aloadn (pc' := 114) i218_113 rfl rfl <| ?_
    refine ok_cc i218_114 rfl (cl_v o218 m13_320 na187 rfl rfl (bt rfl) (bt rfl) rfl (by rw [(TS.sb hT30).k, o187])) ln187 (pd187 (aR B)) <| (Ok.deep (sbL (TS.sb hT30)) (by omega)).mono (fun o9 g31l M31l p31l => ?_)
    obtain ⟨rfl, eg31l, em31l⟩ := p31l
    rw [eg31l, em31l]
    refine kt_v (pc' := 117) rfl <| ok_cnes (pc1 := 128) (pc2 := 120) i218_117 rfl rfl <| ok_aloadn (pc' := 121) i218_120 rfl rfl <| ok_aloadn (pc' := 122) i218_121 rfl rfl <| ?_
    rw [← htx] at hRT30
    refine ok_cc i218_122 rfl (cl_s o218 m13_334 na219 rfl rfl (bt rfl) (bt rfl) rfl) ln219 (pd219 (aR O) (aR B)) <| (Ok.deep (t219 (TS.sb hT30) (by omega) hWt30.1 hWt30.2.1.l hRT30 htl) (by omega)).mono (fun o9 g32p M32p p32p => ?_)
    obtain ⟨rfl, eg32, em32⟩ := p32p
    have hT32 := TS.x hT30 eg32 em32
    have hYt32 := TS.y hT32 hY0
    have hWt32 := TS.w hT32
    have hct32 := TS.c hT32
    have hzt32 := (TS.sb hT32).z
    refine kt_v (pc' := 125) rfl <| ok_kz1 (pc1 := 130) (pc2 := 128) i218_125 (by decide) rfl rfl <| ok_iconst (pc' := 131) i218_130 rfl <| ok_istoren (pc' := 132) (ls' := [aR O, aR 101, aR B, aI 0, aU]) i218_131 (bt rfl) rfl rfl <| ?_
    exact K _ _ _ _ _ (TS.up hT32 (by omega) (by omega))
  · have h01 : 1 ≤ t.1 := by omega
    refine ok_aloadn (pc' := 96) i218_95 rfl rfl <| ?_
    refine ok_cc i218_96 rfl (cl_v o218 m13_320 na187 rfl rfl (bt rfl) (bt rfl) rfl (by rw [(TS.sb hT).k, o187])) ln187 (pd187 (aR B)) <| (Ok.deep (sbL (TS.sb hT)) (by omega)).mono (fun o9 g33l M33l p33l => ?_)
    obtain ⟨rfl, eg33l, em33l⟩ := p33l
    rw [eg33l, em33l]
    refine kt_v (pc' := 99) rfl <| ?_
    refine ok_zne (pc1 := 109) (pc2 := 102) i218_99 (by omega) rfl rfl (fun h1 => ?_) (fun h9 => by exfalso; omega)
    refine ok_aloadn (pc' := 110) i218_109 rfl rfl <| ?_
    have htx : t = textR s := by unfold textR; rw [← ht]; split <;> first | rfl | (exfalso; omega)
    have htl : t.1 ≤ 320 := by rw [htx]; exact (textR_ok hV h40).1
    refine ok_cc i218_110 rfl (cl_v o218 m13_331 na139 rfl rfl (bt rfl) (bt rfl) rfl (by rw [(ShYard_k0 hWt0.1.y), o139])) ln139 (pd139 (aR O)) <| (Ok.deep (t139 (Y := O) (P := O + 38) (A := O + 49) (V := O + 73) (T := O + 74) (K := O + 100) (H := O + 102) (X := O + 346) hWt0.1.y hWt0.1.s hWt0.1.x hWt0.2.1.s hV hQ (Or.inr (by omega)) h40 hWt0.2.1.l) (by omega)).mono (fun o9 g34p M34p p34p => ?_)
    obtain ⟨rfl, eg34, hRT34, hex34⟩ := p34p
    rw [eg34]
    have hT34 := TS.tx hT hex34
    clear hex34
    have hYt34 := TS.y hT34 hY0
    have hWt34 := TS.w hT34
    have hct34 := TS.c hT34
    have hzt34 := (TS.sb hT34).z
    rw [← htx]
    refine kt_v (pc' := 113) rfl <| ok_aloadn (pc' := 114) i218_113 rfl rfl <| ?_
    refine ok_cc i218_114 rfl (cl_v o218 m13_320 na187 rfl rfl (bt rfl) (bt rfl) rfl (by rw [(TS.sb hT34).k, o187])) ln187 (pd187 (aR B)) <| (Ok.deep (sbL (TS.sb hT34)) (by omega)).mono (fun o9 g35l M35l p35l => ?_)
    obtain ⟨rfl, eg35l, em35l⟩ := p35l
    rw [eg35l, em35l]
    refine kt_v (pc' := 117) rfl <| ok_cnes (pc1 := 128) (pc2 := 120) i218_117 rfl rfl <| ok_aloadn (pc' := 121) i218_120 rfl rfl <| ok_aloadn (pc' := 122) i218_121 rfl rfl <| ?_
    rw [← htx] at hRT34
    refine ok_cc i218_122 rfl (cl_s o218 m13_334 na219 rfl rfl (bt rfl) (bt rfl) rfl) ln219 (pd219 (aR O) (aR B)) <| (Ok.deep (t219 (TS.sb hT34) (by omega) hWt34.1 hWt34.2.1.l hRT34 htl) (by omega)).mono (fun o9 g36p M36p p36p => ?_)
    obtain ⟨rfl, eg36, em36⟩ := p36p
    have hT36 := TS.x hT34 eg36 em36
    have hYt36 := TS.y hT36 hY0
    have hWt36 := TS.w hT36
    have hct36 := TS.c hT36
    have hzt36 := (TS.sb hT36).z
    refine kt_v (pc' := 125) rfl <| ok_kz1 (pc1 := 130) (pc2 := 128) i218_125 (by decide) rfl rfl <| ok_iconst (pc' := 131) i218_130 rfl <| ok_istoren (pc' := 132) (ls' := [aR O, aR 101, aR B, aI 0, aU]) i218_131 (bt rfl) rfl rfl <| ?_
    exact K _ _ _ _ _ (TS.up hT36 (by omega) (by omega))
theorem stx_7 (i : Int) (h0 : 0 ≤ i) (h1 : i < 5) : 0 ≤ txg i ∧ txg i ≤ 127 := by
  rcases (show i = 0 ∨ i = 1 ∨ i = 2 ∨ i = 3 ∨ i = 4 by omega) with h | h | h | h | h <;> subst h <;> decide
theorem w218_132 {g0 : AG} {M0 : AM} {O : Nat} {A : YA} {s q : Int → Int} {b : Int} {d : Nat} {Q : AO → AG → AM → Prop} {B : Nat} {g : AG} {M : AM} {V : Nat} {C : Int} {t : Tx} (hY0 : Yd g0 M0 O A s q) (hV : Val b q s) (h40 : s 3 ≤ 40) (hT : TS g0 M0 O b q s g M B V C t 204 70) (K : ∀ (g : AG) (M : AM) (V : Nat) (C : Int) (t : Tx) (w4 : AV), am_cat w4 = 1 → TS g0 M0 O b q s g M B V C t 460 166 → Ok (d + 14) 218 273 [aR O, aR 101, aR B, aI (s 4), w4] [] g M Q) : Ok (d + 14) 218 132 [aR O, aR 101, aR B, aI 0, aU] [] g M Q := by
  have y3 := V_3 hV
  have y4 := V_4 hV
  have y5 := V_5 hV
  have hQ := V_q hV
  have yq0 := Q_0 hQ
  have yq1 := Q_1 hQ
  refine ok_lp (σ := Nat) (fun n ls g9 M9 => n ≤ (s 4).toNat ∧ ∃ (i : Int) (V : Nat) (C : Int) (t : Tx) (w4 : AV), i = (n : Int) ∧ TS g0 M0 O b q s g9 M9 B V C t (204 + 16 * n) (70 + 6 * n) ∧ am_cat w4 = 1 ∧ ls = [aR O, aR 101, aR B, aI i, w4]) (fun n => (s 4).toNat - n) ?_ 0 _ g M ⟨Nat.zero_le _, 0, V, C, t, aU, rfl, hT, rfl, rfl⟩
  rintro n ls g M ⟨hn, i, V, C, t, w4, hi, hT, hw4, rfl⟩ ih
  have hYt0 := TS.y hT hY0
  have hWt0 := TS.w hT
  have hct0 := TS.c hT
  have hzt0 := (TS.sb hT).z
  by_cases hi9 : i = s 4
  · have hT0 := TS.up hT (nc' := 460) (ns' := 166) (by omega) (by omega)
    subst hi9
    refine ok_iloadn (pc' := 133) i218_132 rfl rfl <| ok_aloadn (pc' := 134) i218_133 rfl rfl <| ok_getfi (v := (s 4)) (pc' := 137) i218_134 o218 gi13_155 (hYt0.gr.ky) ((Yd.n4 hYt0)) rfl <| ?_
    refine ok_cge (pc1 := 273) (pc2 := 140) i218_137 (by omega) rfl rfl (fun h1 => ?_) (fun h9 => by exfalso; omega)
    exact K _ _ _ _ _ w4 hw4 hT0
  have hi2 : 0 ≤ i ∧ i < s 4 := by omega
  refine ok_iloadn (pc' := 133) i218_132 rfl rfl <| ok_aloadn (pc' := 134) i218_133 rfl rfl <| ok_getfi (v := (s 4)) (pc' := 137) i218_134 o218 gi13_155 (hYt0.gr.ky) ((Yd.n4 hYt0)) rfl <| ?_
  refine ok_cge (pc1 := 273) (pc2 := 140) i218_137 (by omega) rfl rfl (fun h9 => by exfalso; omega) (fun h1 => ?_)
  refine ok_aloadn (pc' := 141) i218_140 rfl rfl <| ok_getfr (r := 108) (pc' := 144) i218_141 o218 gr13_188 (hYt0.gr.ky) (hYt0.gr.r5) rfl <| ok_iloadn (pc' := 145) i218_144 rfl rfl <| ok_aaload (r := (A.D i)) (pc' := 146) i218_145 (hYt0.gr.k8) (by decide) (hYt0.gr.l8) (by omega) ((hYt0.gr.dd i (by omega) (by omega)).1) rfl <| ok_astore (pc' := 148) (ls' := [aR O, aR 101, aR B, aI i, aR (A.D i)]) i218_146 (bt rfl) rfl rfl <| ok_aloadn (pc' := 149) i218_148 rfl rfl <| ok_iconst (pc' := 150) i218_149 rfl <| ?_
  refine ok_cc i218_150 rfl (cl_v o218 m13_338 na189 rfl rfl (bt rfl) (bt rfl) rfl (by rw [(TS.sb hT).k, o189])) ln189 (pd189 (aR B) (aI 0)) <| (Ok.deep (sbZ (TS.sb hT) (by omega)) (by omega)).mono (fun o9 g37p M37p p37p => ?_)
  obtain ⟨rfl, V37, C37, hSp37, hGp37⟩ := p37p
  have hT37 := TS.ap hT hSp37 hGp37 (by omega)
  obtain ⟨t37, ht37⟩ : ∃ z : Tx, z = t00 := ⟨_, rfl⟩
  rw [← ht37] at hT37
  clear hSp37 hGp37
  have hl37 : t37.1 = 0 := by rw [ht37]; rfl
  have hYt37 := TS.y hT37 hY0
  have hWt37 := TS.w hT37
  have hct37 := TS.c hT37
  have hzt37 := (TS.sb hT37).z
  refine kt_0 (pc' := 153) rfl <| ok_aloadn (pc' := 154) i218_153 rfl rfl <| ok_aload (pc' := 156) i218_154 rfl rfl <| ?_
  have z2 : 1 ≤ s (414 + (8 * i)) ∧ s (414 + (8 * i)) ≤ 200 := V_o0 hV (by omega) (by omega)
  refine ok_getfi (v := (s (414 + (8 * i)))) (pc' := 159) i218_156 o218 gi13_192 ((hYt37.gr.dd i (by omega) (by omega)).2.2) ((Yd.d1 hYt37 (k := i) (by omega) (by omega))) rfl <| ?_
  refine ok_cc i218_159 rfl (cl_v o218 m13_328 na184 rfl rfl (bt rfl) (bt rfl) rfl (by rw [(TS.sb hT37).k, o184])) ln184 (pd184 (aR B) (aI (s (414 + (8 * i))))) <| (Ok.deep (sbI (x := (s (414 + (8 * i)))) (TS.sb hT37) (TS.bs hT37) (by omega) (by omega) (by omega)) (by omega)).mono (fun o9 g38p M38p p38p => ?_)
  obtain ⟨rfl, V38, C38, hSp38, hGp38⟩ := p38p
  have hT38 := TS.ap hT37 hSp38 hGp38 (by have := (sayN_1 (t := t37) (v := (s (414 + (8 * i))))).2; omega)
  obtain ⟨t38, ht38⟩ : ∃ z : Tx, z = sayN t37 (s (414 + (8 * i))) := ⟨_, rfl⟩
  rw [← ht38] at hT38
  clear hSp38 hGp38
  have hl38 : t37.1 + 1 ≤ t38.1 ∧ t38.1 ≤ t37.1 + 3 := by rw [ht38]; exact sayN_1
  have hYt38 := TS.y hT38 hY0
  have hWt38 := TS.w hT38
  have hct38 := TS.c hT38
  have hzt38 := (TS.sb hT38).z
  refine kt_v (pc' := 162) rfl <| ok_bipush (v := 120) (pc' := 164) i218_162 rfl rfl <| ?_
  refine ok_cc i218_164 rfl (cl_v o218 m13_325 na185 rfl rfl (bt rfl) (bt rfl) rfl (by rw [(TS.sb hT38).k, o185])) ln185 (pd185 (aR B) (aI 120)) <| (Ok.deep (sbC (c := 120) (TS.sb hT38) (by omega) (by omega) (by omega)) (by omega)).mono (fun o9 g39p M39p p39p => ?_)
  obtain ⟨rfl, V39, C39, hSp39, hGp39⟩ := p39p
  have hT39 := TS.ap hT38 hSp39 hGp39 (by omega)
  obtain ⟨t39, ht39⟩ : ∃ z : Tx, z = say t38 120 := ⟨_, rfl⟩
  rw [← ht39] at hT39
  clear hSp39 hGp39
  have hl39 : t39.1 = t38.1 + 1 := by rw [ht39]; rfl
  have hYt39 := TS.y hT39 hY0
  have hWt39 := TS.w hT39
  have hct39 := TS.c hT39
  have hzt39 := (TS.sb hT39).z
  refine kt_v (pc' := 167) rfl <| ok_aload (pc' := 169) i218_167 rfl rfl <| ?_
  have z3 : 1 ≤ s ((414 + (8 * i)) + 1) ∧ s ((414 + (8 * i)) + 1) ≤ 9 := V_o1 hV (by omega) (by omega)
  refine ok_getfi (v := (s ((414 + (8 * i)) + 1))) (pc' := 172) i218_169 o218 gi13_195 ((hYt39.gr.dd i (by omega) (by omega)).2.2) ((Yd.d2 hYt39 (k := i) (by omega) (by omega))) rfl <| ?_
  refine ok_cc i218_172 rfl (cl_v o218 m13_328 na184 rfl rfl (bt rfl) (bt rfl) rfl (by rw [(TS.sb hT39).k, o184])) ln184 (pd184 (aR B) (aI (s ((414 + (8 * i)) + 1)))) <| (Ok.deep (sbI (x := (s ((414 + (8 * i)) + 1))) (TS.sb hT39) (TS.bs hT39) (by omega) (by omega) (by omega)) (by omega)).mono (fun o9 g40p M40p p40p => ?_)
  obtain ⟨rfl, V40, C40, hSp40, hGp40⟩ := p40p
  have hT40 := TS.ap hT39 hSp40 hGp40 (by have := (sayN_1 (t := t39) (v := (s ((414 + (8 * i)) + 1)))).2; omega)
  obtain ⟨t40, ht40⟩ : ∃ z : Tx, z = sayN t39 (s ((414 + (8 * i)) + 1)) := ⟨_, rfl⟩
  rw [← ht40] at hT40
  clear hSp40 hGp40
  have hl40 : t39.1 + 1 ≤ t40.1 ∧ t40.1 ≤ t39.1 + 3 := by rw [ht40]; exact sayN_1
  have hYt40 := TS.y hT40 hY0
  have hWt40 := TS.w hT40
  have hct40 := TS.c hT40
  have hzt40 := (TS.sb hT40).z
  refine kt_v (pc' := 175) rfl <| ok_bipush (v := 32) (pc' := 177) i218_175 rfl rfl <| ?_
  refine ok_cc i218_177 rfl (cl_v o218 m13_325 na185 rfl rfl (bt rfl) (bt rfl) rfl (by rw [(TS.sb hT40).k, o185])) ln185 (pd185 (aR B) (aI 32)) <| (Ok.deep (sbC (c := 32) (TS.sb hT40) (by omega) (by omega) (by omega)) (by omega)).mono (fun o9 g41p M41p p41p => ?_)
  obtain ⟨rfl, V41, C41, hSp41, hGp41⟩ := p41p
  have hT41 := TS.ap hT40 hSp41 hGp41 (by omega)
  obtain ⟨t41, ht41⟩ : ∃ z : Tx, z = say t40 32 := ⟨_, rfl⟩
  rw [← ht41] at hT41
  clear hSp41 hGp41
  have hl41 : t41.1 = t40.1 + 1 := by rw [ht41]; rfl
  have hYt41 := TS.y hT41 hY0
  have hWt41 := TS.w hT41
  have hct41 := TS.c hT41
  have hzt41 := (TS.sb hT41).z
  refine kt_v (pc' := 180) rfl <| ok_aload (pc' := 182) i218_180 rfl rfl <| ?_
  have z4 : 0 ≤ s ((414 + (8 * i)) + 5) ∧ s ((414 + (8 * i)) + 5) ≤ 9 := V_o5 hV (by omega) (by omega)
  refine ok_getfi (v := (s ((414 + (8 * i)) + 5))) (pc' := 185) i218_182 o218 gi13_207 ((hYt41.gr.dd i (by omega) (by omega)).2.2) ((Yd.d6 hYt41 (k := i) (by omega) (by omega))) rfl <| ?_
  refine ok_cc i218_185 rfl (cl_v o218 m13_328 na184 rfl rfl (bt rfl) (bt rfl) rfl (by rw [(TS.sb hT41).k, o184])) ln184 (pd184 (aR B) (aI (s ((414 + (8 * i)) + 5)))) <| (Ok.deep (sbI (x := (s ((414 + (8 * i)) + 5))) (TS.sb hT41) (TS.bs hT41) (by omega) (by omega) (by omega)) (by omega)).mono (fun o9 g42p M42p p42p => ?_)
  obtain ⟨rfl, V42, C42, hSp42, hGp42⟩ := p42p
  have hT42 := TS.ap hT41 hSp42 hGp42 (by have := (sayN_1 (t := t41) (v := (s ((414 + (8 * i)) + 5)))).2; omega)
  obtain ⟨t42, ht42⟩ : ∃ z : Tx, z = sayN t41 (s ((414 + (8 * i)) + 5)) := ⟨_, rfl⟩
  rw [← ht42] at hT42
  clear hSp42 hGp42
  have hl42 : t41.1 + 1 ≤ t42.1 ∧ t42.1 ≤ t41.1 + 3 := by rw [ht42]; exact sayN_1
  have hYt42 := TS.y hT42 hY0
  have hWt42 := TS.w hT42
  have hct42 := TS.c hT42
  have hzt42 := (TS.sb hT42).z
  refine kt_v (pc' := 188) rfl <| ok_bipush (v := 43) (pc' := 190) i218_188 rfl rfl <| ?_
  refine ok_cc i218_190 rfl (cl_v o218 m13_325 na185 rfl rfl (bt rfl) (bt rfl) rfl (by rw [(TS.sb hT42).k, o185])) ln185 (pd185 (aR B) (aI 43)) <| (Ok.deep (sbC (c := 43) (TS.sb hT42) (by omega) (by omega) (by omega)) (by omega)).mono (fun o9 g43p M43p p43p => ?_)
  obtain ⟨rfl, V43, C43, hSp43, hGp43⟩ := p43p
  have hT43 := TS.ap hT42 hSp43 hGp43 (by omega)
  obtain ⟨t43, ht43⟩ : ∃ z : Tx, z = say t42 43 := ⟨_, rfl⟩
  rw [← ht43] at hT43
  clear hSp43 hGp43
  have hl43 : t43.1 = t42.1 + 1 := by rw [ht43]; rfl
  have hYt43 := TS.y hT43 hY0
  have hWt43 := TS.w hT43
  have hct43 := TS.c hT43
  have hzt43 := (TS.sb hT43).z
  refine kt_v (pc' := 193) rfl <| ok_aload (pc' := 195) i218_193 rfl rfl <| ?_
  have z5 : 0 ≤ s ((414 + (8 * i)) + 6) ∧ s ((414 + (8 * i)) + 6) ≤ 9 := V_o6 hV (by omega) (by omega)
  refine ok_getfi (v := (s ((414 + (8 * i)) + 6))) (pc' := 198) i218_195 o218 gi13_210 ((hYt43.gr.dd i (by omega) (by omega)).2.2) ((Yd.d7 hYt43 (k := i) (by omega) (by omega))) rfl <| ?_
  refine ok_cc i218_198 rfl (cl_v o218 m13_328 na184 rfl rfl (bt rfl) (bt rfl) rfl (by rw [(TS.sb hT43).k, o184])) ln184 (pd184 (aR B) (aI (s ((414 + (8 * i)) + 6)))) <| (Ok.deep (sbI (x := (s ((414 + (8 * i)) + 6))) (TS.sb hT43) (TS.bs hT43) (by omega) (by omega) (by omega)) (by omega)).mono (fun o9 g44p M44p p44p => ?_)
  obtain ⟨rfl, V44, C44, hSp44, hGp44⟩ := p44p
  have hT44 := TS.ap hT43 hSp44 hGp44 (by have := (sayN_1 (t := t43) (v := (s ((414 + (8 * i)) + 6)))).2; omega)
  obtain ⟨t44, ht44⟩ : ∃ z : Tx, z = sayN t43 (s ((414 + (8 * i)) + 6)) := ⟨_, rfl⟩
  rw [← ht44] at hT44
  clear hSp44 hGp44
  have hl44 : t43.1 + 1 ≤ t44.1 ∧ t44.1 ≤ t43.1 + 3 := by rw [ht44]; exact sayN_1
  have hYt44 := TS.y hT44 hY0
  have hWt44 := TS.w hT44
  have hct44 := TS.c hT44
  have hzt44 := (TS.sb hT44).z
  refine kt_v (pc' := 201) rfl <| ok_bipush (v := 47) (pc' := 203) i218_201 rfl rfl <| ?_
  refine ok_cc i218_203 rfl (cl_v o218 m13_325 na185 rfl rfl (bt rfl) (bt rfl) rfl (by rw [(TS.sb hT44).k, o185])) ln185 (pd185 (aR B) (aI 47)) <| (Ok.deep (sbC (c := 47) (TS.sb hT44) (by omega) (by omega) (by omega)) (by omega)).mono (fun o9 g45p M45p p45p => ?_)
  obtain ⟨rfl, V45, C45, hSp45, hGp45⟩ := p45p
  have hT45 := TS.ap hT44 hSp45 hGp45 (by omega)
  obtain ⟨t45, ht45⟩ : ∃ z : Tx, z = say t44 47 := ⟨_, rfl⟩
  rw [← ht45] at hT45
  clear hSp45 hGp45
  have hl45 : t45.1 = t44.1 + 1 := by rw [ht45]; rfl
  have hYt45 := TS.y hT45 hY0
  have hWt45 := TS.w hT45
  have hct45 := TS.c hT45
  have hzt45 := (TS.sb hT45).z
  refine kt_v (pc' := 206) rfl <| ok_aload (pc' := 208) i218_206 rfl rfl <| ?_
  have z6 : 0 ≤ s ((414 + (8 * i)) + 4) ∧ s ((414 + (8 * i)) + 4) ≤ 9 := V_o4 hV (by omega) (by omega)
  refine ok_getfi (v := (s ((414 + (8 * i)) + 4))) (pc' := 211) i218_208 o218 gi13_204 ((hYt45.gr.dd i (by omega) (by omega)).2.2) ((Yd.d5 hYt45 (k := i) (by omega) (by omega))) rfl <| ?_
  refine ok_cc i218_211 rfl (cl_v o218 m13_328 na184 rfl rfl (bt rfl) (bt rfl) rfl (by rw [(TS.sb hT45).k, o184])) ln184 (pd184 (aR B) (aI (s ((414 + (8 * i)) + 4)))) <| (Ok.deep (sbI (x := (s ((414 + (8 * i)) + 4))) (TS.sb hT45) (TS.bs hT45) (by omega) (by omega) (by omega)) (by omega)).mono (fun o9 g46p M46p p46p => ?_)
  obtain ⟨rfl, V46, C46, hSp46, hGp46⟩ := p46p
  have hT46 := TS.ap hT45 hSp46 hGp46 (by have := (sayN_1 (t := t45) (v := (s ((414 + (8 * i)) + 4)))).2; omega)
  obtain ⟨t46, ht46⟩ : ∃ z : Tx, z = sayN t45 (s ((414 + (8 * i)) + 4)) := ⟨_, rfl⟩
  rw [← ht46] at hT46
  clear hSp46 hGp46
  have hl46 : t45.1 + 1 ≤ t46.1 ∧ t46.1 ≤ t45.1 + 3 := by rw [ht46]; exact sayN_1
  have hYt46 := TS.y hT46 hY0
  have hWt46 := TS.w hT46
  have hct46 := TS.c hT46
  have hzt46 := (TS.sb hT46).z
  refine kt_v (pc' := 214) rfl <| ok_ldws (pc' := 217) i218_214 o218 sr13_341 rfl <| ?_
  have hst := BS.str (TS.bs hT46) (j := 14) (by decide)
  refine ok_cc i218_217 rfl (cl_v o218 m13_343 na183 rfl rfl (bt rfl) (bt rfl) rfl (by rw [(TS.sb hT46).k, o183])) ln183 (pd183 (aR B) (aR 38)) <| (Ok.deep (sbS (m := 2) (tx := stx 14) (TS.sb hT46) hst.1 rfl (by decide) (by decide) (by decide) (fun i i0 i1 => ⟨hst.2 i i0 i1, stx_14 i i0 i1⟩) (by omega) (by omega)) (by omega)).mono (fun o9 g47p M47p p47p => ?_)
  obtain ⟨rfl, V47, C47, hSp47, hGp47⟩ := p47p
  have hT47 := TS.ap hT46 hSp47 hGp47 (by rw [sayW_1]; show _ + ((2 : Nat) : Int) ≤ _; omega)
  obtain ⟨t47, ht47⟩ : ∃ z : Tx, z = sayW t46 (stx 14) (stn 14) := ⟨_, rfl⟩
  rw [← ht47] at hT47
  clear hSp47 hGp47
  have hl47 : t47.1 = t46.1 + 2 := by rw [ht47]; exact sayW_1 _
  have hYt47 := TS.y hT47 hY0
  have hWt47 := TS.w hT47
  have hct47 := TS.c hT47
  have hzt47 := (TS.sb hT47).z
  refine kt_v (pc' := 220) rfl <| ok_aload (pc' := 222) i218_220 rfl rfl <| ?_
  have z7 : 0 ≤ s ((414 + (8 * i)) + 3) ∧ s ((414 + (8 * i)) + 3) ≤ 999 := V_o3 hV (by omega) (by omega)
  refine ok_getfi (v := (s ((414 + (8 * i)) + 3))) (pc' := 225) i218_222 o218 gi13_201 ((hYt47.gr.dd i (by omega) (by omega)).2.2) ((Yd.d4 hYt47 (k := i) (by omega) (by omega))) rfl <| ?_
  refine ok_cc i218_225 rfl (cl_v o218 m13_328 na184 rfl rfl (bt rfl) (bt rfl) rfl (by rw [(TS.sb hT47).k, o184])) ln184 (pd184 (aR B) (aI (s ((414 + (8 * i)) + 3)))) <| (Ok.deep (sbI (x := (s ((414 + (8 * i)) + 3))) (TS.sb hT47) (TS.bs hT47) (by omega) (by omega) (by omega)) (by omega)).mono (fun o9 g48p M48p p48p => ?_)
  obtain ⟨rfl, V48, C48, hSp48, hGp48⟩ := p48p
  have hT48 := TS.ap hT47 hSp48 hGp48 (by have := (sayN_1 (t := t47) (v := (s ((414 + (8 * i)) + 3)))).2; omega)
  obtain ⟨t48, ht48⟩ : ∃ z : Tx, z = sayN t47 (s ((414 + (8 * i)) + 3)) := ⟨_, rfl⟩
  rw [← ht48] at hT48
  clear hSp48 hGp48
  have hl48 : t47.1 + 1 ≤ t48.1 ∧ t48.1 ≤ t47.1 + 3 := by rw [ht48]; exact sayN_1
  have hYt48 := TS.y hT48 hY0
  have hWt48 := TS.w hT48
  have hct48 := TS.c hT48
  have hzt48 := (TS.sb hT48).z
  refine kt_v (pc' := 228) rfl <| ok_pop (pc' := 229) i218_228 rfl rfl <| ok_aload (pc' := 231) i218_229 rfl rfl <| ?_
  have z8 : 0 ≤ s ((414 + (8 * i)) + 7) ∧ s ((414 + (8 * i)) + 7) ≤ 1 := V_o7 hV (by omega) (by omega)
  refine ok_getfi (v := (s ((414 + (8 * i)) + 7))) (pc' := 234) i218_231 o218 gi13_213 ((hYt48.gr.dd i (by omega) (by omega)).2.2) ((Yd.d8 hYt48 (k := i) (by omega) (by omega))) rfl <| ?_
  refine ok_zeq (pc1 := 245) (pc2 := 237) i218_234 (by omega) rfl rfl (fun h9 => ?_) (fun h9 => ?_)
  · refine ok_aloadn (pc' := 246) i218_245 rfl rfl <| ok_iloadn (pc' := 247) i218_246 rfl rfl <| ?_
    have htx : t48 = textO s i := by rw [ht48, ht47, ht46, ht45, ht44, ht43, ht42, ht41, ht40, ht39, ht38, ht37]; unfold textO ordX; split <;> first | rfl | (exfalso; omega)
    have htl : t48.1 ≤ 320 := by rw [htx]; exact (textO_ok hV hi2).1
    have hs7 := BS.str (TS.bs hT48) (j := 7) (by decide)
    refine ok_cc i218_247 rfl (cl_v o218 m13_77 na141 rfl rfl (bt rfl) (bt rfl) rfl (by rw [(ShYard_k0 hWt48.1.y), o141])) ln141 (pd141 (aR O) (aI i)) <| (Ok.deep (t141 (Y := O) (P := O + 38) (A := O + 49) (V := O + 73) (T := O + 74) (K := O + 100) (H := O + 102) (X := O + 346) (x1 := i) hWt48.1.y hWt48.1.s hWt48.1.x hs7.1 hWt48.2.1.s hV hQ (fun i i0 i1 => ⟨hs7.2 i i0 i1, by have h9 := stx_7 i i0 i1; exact ⟨h9.1, Int.lt_of_le_of_lt h9.2 (by decide)⟩⟩) hi2 (Or.inr (by omega)) (by omega) hWt48.2.1.l) (by omega)).mono (fun o9 g49p M49p p49p => ?_)
    obtain ⟨rfl, eg49, hRT49, hex49⟩ := p49p
    rw [eg49]
    have hT49 := TS.tx hT48 hex49
    clear hex49
    have hYt49 := TS.y hT49 hY0
    have hWt49 := TS.w hT49
    have hct49 := TS.c hT49
    have hzt49 := (TS.sb hT49).z
    rw [← htx]
    refine kt_v (pc' := 250) rfl <| ok_aloadn (pc' := 251) i218_250 rfl rfl <| ?_
    refine ok_cc i218_251 rfl (cl_v o218 m13_320 na187 rfl rfl (bt rfl) (bt rfl) rfl (by rw [(TS.sb hT49).k, o187])) ln187 (pd187 (aR B)) <| (Ok.deep (sbL (TS.sb hT49)) (by omega)).mono (fun o9 g50l M50l p50l => ?_)
    obtain ⟨rfl, eg50l, em50l⟩ := p50l
    rw [eg50l, em50l]
    refine kt_v (pc' := 254) rfl <| ok_cnes (pc1 := 265) (pc2 := 257) i218_254 rfl rfl <| ok_aloadn (pc' := 258) i218_257 rfl rfl <| ok_aloadn (pc' := 259) i218_258 rfl rfl <| ?_
    rw [← htx] at hRT49
    refine ok_cc i218_259 rfl (cl_s o218 m13_334 na219 rfl rfl (bt rfl) (bt rfl) rfl) ln219 (pd219 (aR O) (aR B)) <| (Ok.deep (t219 (TS.sb hT49) (by omega) hWt49.1 hWt49.2.1.l hRT49 htl) (by omega)).mono (fun o9 g51p M51p p51p => ?_)
    obtain ⟨rfl, eg51, em51⟩ := p51p
    have hT51 := TS.x hT49 eg51 em51
    have hYt51 := TS.y hT51 hY0
    have hWt51 := TS.w hT51
    have hct51 := TS.c hT51
    have hzt51 := (TS.sb hT51).z
    refine kt_v (pc' := 262) rfl <| ok_kz1 (pc1 := 267) (pc2 := 265) i218_262 (by decide) rfl rfl <| ok_iinc (pc' := 270) (v := (i + 1)) (ls' := [aR O, aR 101, aR B, aI (i + 1), aR (A.D i)]) i218_267 rfl rfl rfl rfl <| ok_goto (pc' := 132) i218_270 rfl <| ?_
    exact ih (n + 1) _ _ _ (by omega) ⟨by omega, i + 1, _, _, _, _, by omega, TS.up hT51 (by omega) (by omega), rfl, rfl⟩
  · refine ok_aloadn (pc' := 238) i218_237 rfl rfl <| ok_ldws (pc' := 241) i218_238 o218 sr13_346 rfl <| ?_
    have hst := BS.str (TS.bs hT48) (j := 15) (by decide)
    refine ok_cc i218_241 rfl (cl_v o218 m13_343 na183 rfl rfl (bt rfl) (bt rfl) rfl (by rw [(TS.sb hT48).k, o183])) ln183 (pd183 (aR B) (aR 40)) <| (Ok.deep (sbS (m := 5) (tx := stx 15) (TS.sb hT48) hst.1 rfl (by decide) (by decide) (by decide) (fun i i0 i1 => ⟨hst.2 i i0 i1, stx_15 i i0 i1⟩) (by omega) (by omega)) (by omega)).mono (fun o9 g52p M52p p52p => ?_)
    obtain ⟨rfl, V52, C52, hSp52, hGp52⟩ := p52p
    have hT52 := TS.ap hT48 hSp52 hGp52 (by rw [sayW_1]; show _ + ((5 : Nat) : Int) ≤ _; omega)
    obtain ⟨t52, ht52⟩ : ∃ z : Tx, z = sayW t48 (stx 15) (stn 15) := ⟨_, rfl⟩
    rw [← ht52] at hT52
    clear hSp52 hGp52
    have hl52 : t52.1 = t48.1 + 5 := by rw [ht52]; exact sayW_1 _
    have hYt52 := TS.y hT52 hY0
    have hWt52 := TS.w hT52
    have hct52 := TS.c hT52
    have hzt52 := (TS.sb hT52).z
    refine kt_v (pc' := 244) rfl <| ok_pop (pc' := 245) i218_244 rfl rfl <| ok_aloadn (pc' := 246) i218_245 rfl rfl <| ok_iloadn (pc' := 247) i218_246 rfl rfl <| ?_
    have htx : t52 = textO s i := by rw [ht52, ht48, ht47, ht46, ht45, ht44, ht43, ht42, ht41, ht40, ht39, ht38, ht37]; unfold textO ordX; split <;> first | rfl | (exfalso; omega)
    have htl : t52.1 ≤ 320 := by rw [htx]; exact (textO_ok hV hi2).1
    have hs7 := BS.str (TS.bs hT52) (j := 7) (by decide)
    refine ok_cc i218_247 rfl (cl_v o218 m13_77 na141 rfl rfl (bt rfl) (bt rfl) rfl (by rw [(ShYard_k0 hWt52.1.y), o141])) ln141 (pd141 (aR O) (aI i)) <| (Ok.deep (t141 (Y := O) (P := O + 38) (A := O + 49) (V := O + 73) (T := O + 74) (K := O + 100) (H := O + 102) (X := O + 346) (x1 := i) hWt52.1.y hWt52.1.s hWt52.1.x hs7.1 hWt52.2.1.s hV hQ (fun i i0 i1 => ⟨hs7.2 i i0 i1, by have h9 := stx_7 i i0 i1; exact ⟨h9.1, Int.lt_of_le_of_lt h9.2 (by decide)⟩⟩) hi2 (Or.inr (by omega)) (by omega) hWt52.2.1.l) (by omega)).mono (fun o9 g53p M53p p53p => ?_)
    obtain ⟨rfl, eg53, hRT53, hex53⟩ := p53p
    rw [eg53]
    have hT53 := TS.tx hT52 hex53
    clear hex53
    have hYt53 := TS.y hT53 hY0
    have hWt53 := TS.w hT53
    have hct53 := TS.c hT53
    have hzt53 := (TS.sb hT53).z
    rw [← htx]
    refine kt_v (pc' := 250) rfl <| ok_aloadn (pc' := 251) i218_250 rfl rfl <| ?_
    refine ok_cc i218_251 rfl (cl_v o218 m13_320 na187 rfl rfl (bt rfl) (bt rfl) rfl (by rw [(TS.sb hT53).k, o187])) ln187 (pd187 (aR B)) <| (Ok.deep (sbL (TS.sb hT53)) (by omega)).mono (fun o9 g54l M54l p54l => ?_)
    obtain ⟨rfl, eg54l, em54l⟩ := p54l
    rw [eg54l, em54l]
    refine kt_v (pc' := 254) rfl <| ok_cnes (pc1 := 265) (pc2 := 257) i218_254 rfl rfl <| ok_aloadn (pc' := 258) i218_257 rfl rfl <| ok_aloadn (pc' := 259) i218_258 rfl rfl <| ?_
    rw [← htx] at hRT53
    refine ok_cc i218_259 rfl (cl_s o218 m13_334 na219 rfl rfl (bt rfl) (bt rfl) rfl) ln219 (pd219 (aR O) (aR B)) <| (Ok.deep (t219 (TS.sb hT53) (by omega) hWt53.1 hWt53.2.1.l hRT53 htl) (by omega)).mono (fun o9 g55p M55p p55p => ?_)
    obtain ⟨rfl, eg55, em55⟩ := p55p
    have hT55 := TS.x hT53 eg55 em55
    have hYt55 := TS.y hT55 hY0
    have hWt55 := TS.w hT55
    have hct55 := TS.c hT55
    have hzt55 := (TS.sb hT55).z
    refine kt_v (pc' := 262) rfl <| ok_kz1 (pc1 := 267) (pc2 := 265) i218_262 (by decide) rfl rfl <| ok_iinc (pc' := 270) (v := (i + 1)) (ls' := [aR O, aR 101, aR B, aI (i + 1), aR (A.D i)]) i218_267 rfl rfl rfl rfl <| ok_goto (pc' := 132) i218_270 rfl <| ?_
    exact ih (n + 1) _ _ _ (by omega) ⟨by omega, i + 1, _, _, _, _, by omega, TS.up hT55 (by omega) (by omega), rfl, rfl⟩
