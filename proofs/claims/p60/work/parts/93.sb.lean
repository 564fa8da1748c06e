/-! STRINGBUILDER: length, letters, new (by program, wip/p60/gen) -/
theorem o187 : am_oc 187 = 18 := by decide +kernel
theorem m18_343 : am_mlk 18 343 10 177 = true := by decide +kernel
theorem na177 : am_na 177 = 0 := by decide +kernel
theorem nl177 : am_nL 177 = 1 := by decide +kernel
theorem pd177 : ∀ a0 : AV, am_pad 177 [a0] = [a0] := by intros; unfold am_pad; rw [nl177]; rfl
theorem ln177 : 1 ≤ am_nL 177 := by rw [nl177]; decide
theorem o177 : am_oc 177 = 24 := by decide +kernel
theorem rt177 : am_rt 177 = some .int := by decide +kernel
theorem rt187 : am_rt 187 = some .int := by decide +kernel
theorem o188 : am_oc 188 = 18 := by decide +kernel
theorem m18_329 : am_mlk 18 329 10 178 = true := by decide +kernel
theorem na178 : am_na 178 = 1 := by decide +kernel
theorem nl178 : am_nL 178 = 5 := by decide +kernel
theorem pd178 : ∀ a0 a1 : AV, am_pad 178 [a0, a1] = [a0, a1, aU, aU, aU] := by intros; unfold am_pad; rw [nl178]; rfl
theorem ln178 : 2 ≤ am_nL 178 := by rw [nl178]; decide
theorem o178 : am_oc 178 = 24 := by decide +kernel
theorem m24_138 : am_mlk 24 138 7 0 = true := by decide +kernel
theorem m24_144 : am_mlk 24 144 1 5 = true := by decide +kernel
theorem rt178 : am_rt 178 = some .char := by decide +kernel
theorem rt188 : am_rt 188 = some .char := by decide +kernel
theorem o189 : am_oc 189 = 18 := by decide +kernel
theorem m18_333 : am_mlk 18 333 10 179 = true := by decide +kernel
theorem na179 : am_na 179 = 1 := by decide +kernel
theorem nl179 : am_nL 179 = 2 := by decide +kernel
theorem pd179 : ∀ a0 a1 : AV, am_pad 179 [a0, a1] = [a0, a1] := by intros; unfold am_pad; rw [nl179]; rfl
theorem ln179 : 2 ≤ am_nL 179 := by rw [nl179]; decide
theorem o179 : am_oc 179 = 24 := by decide +kernel
theorem pi179_79 : am_pfi 179 24 79 18 3 = true := by decide +kernel
theorem rt179 : am_rt 179 = none := by decide +kernel
theorem rt189 : am_rt 189 = none := by decide +kernel
theorem pz179_73 : am_pfz 179 24 73 18 2 = true := by decide +kernel
theorem o186 : am_oc 186 = 18 := by decide +kernel
theorem m18_1 : am_mlk 18 1 2 176 = true := by decide +kernel
theorem na176 : am_na 176 = 1 := by decide +kernel
theorem nl176 : am_nL 176 = 2 := by decide +kernel
theorem pd176 : ∀ a0 a1 : AV, am_pad 176 [a0, a1] = [a0, a1] := by intros; unfold am_pad; rw [nl176]; rfl
theorem ln176 : 2 ≤ am_nL 176 := by rw [nl176]; decide
theorem o176 : am_oc 176 = 24 := by decide +kernel
theorem m24_3 : am_mlk 24 3 5 0 = true := by decide +kernel
theorem pr176_15 : am_pfr 176 24 15 18 0 = true := by decide +kernel
theorem pb176_22 : am_pfb 176 24 22 18 1 = true := by decide +kernel
theorem rt176 : am_rt 176 = none := by decide +kernel
theorem rt186 : am_rt 186 = none := by decide +kernel
theorem sbL {g : AG} {M : AM} {B V : Nat} {C : Int} {t : Tx} (hS : SB g M B V C t) : Ok 1 187 0 [aR B] [] g M (Rt (some (aI t.1)) g (fun M9 => M9 = M)) := by
  refine ok_aloadn (pc' := 1) i187_0 rfl rfl <| ok_cc i187_1 rfl (cl_w o187 m18_343 na177 rfl rfl (bt rfl) (bt rfl) rfl hS.k) ln177 (pd177 (aR B)) <| ok_aloadn (pc' := 1) i177_0 rfl rfl <| ok_getfi (v := t.1) (pc' := 4) i177_1 o177 gi24_79 (hS.k) (hS.n) rfl <| ok_ireti i177_4 rt177 <| kt_v (pc' := 4) rfl <| ok_ireti i187_4 rt187 <| ?_
  exact ⟨rfl, rfl, rfl⟩
theorem sbA {g : AG} {M : AM} {B V : Nat} {C : Int} {t : Tx} {x : Int} (hS : SB g M B V C t) (hC : C ≤ 4000) (hx : 0 ≤ x ∧ x < t.1) : Ok 3 188 0 [aR B, aI x] [] g M (Rt (some (aI (t.2 x))) g (fun M9 => M9 = M)) := by
  have hz := hS.z
  have hA := hS.a
  have hc := (hS.m x hx.1 hx.2).2
  refine ok_aloadn (pc' := 1) i188_0 rfl rfl <| ok_iloadn (pc' := 2) i188_1 rfl rfl <| ok_cc i188_2 rfl (cl_w o188 m18_329 na178 rfl rfl (bt rfl) (bt rfl) rfl hS.k) ln178 (pd178 (aR B) (aI x)) <| ok_aloadn (pc' := 1) i178_0 rfl rfl <| ok_getfi (v := 0) (pc' := 4) i178_1 o178 gi24_22 (hS.k) (hS.c) rfl <| ok_istoren (pc' := 5) (ls' := [aR B, aI x, aI 0, aU, aU]) i178_4 (bt rfl) rfl rfl <| ok_aloadn (pc' := 6) i178_5 rfl rfl <| ok_getfr (r := V) (pc' := 9) i178_6 o178 gr24_15 (hS.k) (hS.r) rfl <| ?_
  refine ok_astoren (pc' := 10) (ls' := [aR B, aI x, aI 0, aR V, aU]) i178_9 (bt rfl) rfl rfl <| ok_aloadn (pc' := 11) i178_10 rfl rfl <| ok_getfi (v := t.1) (pc' := 14) i178_11 o178 gi24_79 (hS.k) (hS.n) rfl <| ok_aloadn (pc' := 15) i178_14 rfl rfl <| ok_arrlen (v := C) (pc' := 16) i178_15 (hS.v) (by decide) (hS.l) rfl <| ok_iloadn (pc' := 17) i178_16 rfl rfl <| ok_ishr (v := C) (pc' := 18) i178_17 (shr0 (by omega)) rfl <| ok_min (v := (min t.1 C)) (pc' := 21) i178_18 o178 m24_138 (by omega) (bt rfl) rfl rfl <| ?_
  rw [show (min t.1 C) = t.1 by omega]
  refine ok_istore (pc' := 23) (ls' := [aR B, aI x, aI 0, aR V, aI t.1]) i178_21 (bt rfl) rfl rfl <| ok_iloadn (pc' := 24) i178_23 rfl rfl <| ok_iload (pc' := 26) i178_24 rfl rfl <| ok_cc i178_26 rfl (cl_s o178 m24_144 na5 rfl rfl (bt rfl) (bt rfl) rfl) ln5 (pd5 (aI x) (aI t.1)) <| ok_iloadn (pc' := 1) i5_0 rfl rfl <| ok_iloadn (pc' := 2) i5_1 rfl rfl <| ok_gst2 (pc' := 5) i5_2 o5 rfl <| ok_cc i5_5 rfl (cl_s o5 m14_1059 na7 rfl rfl (bt rfl) (bt rfl) rfl) ln7 (pd7 (aI x) (aI t.1) (aR 2)) <| ?_
  refine ok_iloadn (pc' := 1) i7_0 rfl rfl <| ?_
  refine ok_zlt (pc1 := 9) (pc2 := 4) i7_1 (by omega) rfl rfl (fun h9 => by exfalso; omega) (fun h1 => ?_)
  refine ok_iloadn (pc' := 5) i7_4 rfl rfl <| ok_iloadn (pc' := 6) i7_5 rfl rfl <| ?_
  refine ok_clt (pc1 := 16) (pc2 := 9) i7_6 (by omega) rfl rfl (fun h2 => ?_) (fun h9 => by exfalso; omega)
  refine ok_iloadn (pc' := 17) i7_16 rfl rfl <| ok_ireti i7_17 rt7 <| kt_v (pc' := 8) rfl <| ok_pop (pc' := 9) i5_8 rfl rfl <| ok_vret i5_9 rt5 <| kt_0 (pc' := 29) rfl <| ok_iloadn (pc' := 30) i178_29 rfl rfl <| ok_kz0 (pc1 := 42) (pc2 := 33) i178_30 (by decide) rfl rfl <| ?_
  refine ok_aloadn (pc' := 34) i178_33 rfl rfl <| ok_iloadn (pc' := 35) i178_34 rfl rfl <| ?_
  have z3 : ((gL g V : Nat) : Int) = C := hS.l
  refine ok_baload (v := (t.2 x)) (pc' := 36) i178_35 (hS.v) (by decide) (rfl) (by omega) ((hS.m x (by omega) (by omega)).1) rfl <| ok_sipush (v := 255) (pc' := 39) i178_36 rfl rfl <| ok_iand (v := (t.2 x)) (pc' := 40) i178_39 (and255 (by omega)) rfl <| ok_i2c (v := (t.2 x)) (pc' := 41) i178_40 (by omega) rfl <| ok_iretc i178_41 rt178 (by omega) <| kt_v (pc' := 5) rfl <| ok_iretc i188_5 rt188 (by omega) <| ?_
  exact ⟨rfl, rfl, rfl⟩
theorem sbZ {g : AG} {M : AM} {B V : Nat} {C : Int} {t : Tx} (hS : SB g M B V C t) (hC : C ≤ 4000) : Ok 5 189 0 [aR B, aI 0] [] g M (fun o g1 M1 => o = .inl none ∧ ∃ (V1 : Nat) (C1 : Int), SB g1 M1 B V1 C1 t00 ∧ Gr g M g1 M1 B V V1 C C1 0) := by
  have hz := hS.z
  have hA := hS.a
  refine ok_aloadn (pc' := 1) i189_0 rfl rfl <| ok_iloadn (pc' := 2) i189_1 rfl rfl <| ok_cc i189_2 rfl (cl_w o189 m18_333 na179 rfl rfl (bt rfl) (bt rfl) rfl hS.k) ln179 (pd179 (aR B) (aI 0)) <| ok_iloadn (pc' := 1) i179_0 rfl rfl <| ok_kz1 (pc1 := 13) (pc2 := 4) i179_1 (by decide) rfl rfl <| ok_aloadn (pc' := 14) i179_13 rfl rfl <| ok_iloadn (pc' := 15) i179_14 rfl rfl <| ?_
  refine ok_cc i179_15 rfl (cl_u o179 m24_100 na169 rfl rfl (bt rfl) (bt rfl) rfl hS.k) ln169 (pd169 (aR B) (aI 0)) <| (Ok.deep (t169 (m := 0) hS (by omega) (by omega)) (by omega)).mono (fun o9 g12e M12e p12e => ?_)
  obtain ⟨rfl, V12, C12, hS12, hm12, hG12⟩ := p12e
  have hz12 := hS12.z
  have hg12 := hG12.2.2
  have hc12 : C ≤ C12 ∧ C12 ≤ 8000 := by omega
  refine kt_0 (pc' := 18) rfl <| ok_aloadn (pc' := 19) i179_18 rfl rfl <| ok_getfi (v := t.1) (pc' := 22) i179_19 o179 gi24_79 (hS12.k) (hS12.n) rfl <| ok_iloadn (pc' := 23) i179_22 rfl rfl <| ?_
  refine ok_cge (pc1 := 63) (pc2 := 26) i179_23 (by omega) rfl rfl (fun h1 => ?_) (fun h9 => by exfalso; omega)
  refine ok_aloadn (pc' := 64) i179_63 rfl rfl <| ok_getfi (v := t.1) (pc' := 67) i179_64 o179 gi24_79 (hS12.k) (hS12.n) rfl <| ok_iloadn (pc' := 68) i179_67 rfl rfl <| ?_
  refine ok_cle (pc1 := 76) (pc2 := 71) i179_68 (by omega) rfl rfl (fun h2 => ?_) (fun h2 => ?_)
  · refine ok_aloadn (pc' := 77) i179_76 rfl rfl <| ok_iloadn (pc' := 78) i179_77 rfl rfl <| ok_putfj (kk := 3) (pc' := 81) i179_78 o179 pi179_79 (hS12.k) rfl rfl <| ok_vret i179_81 rt179 <| kt_0 (pc' := 5) rfl <| ok_vret i189_5 rt189 <| ?_
    exact ⟨rfl, _, _, SB.mk (t1 := t00) hS12 (rd_ni (by omega) hS12.c) rd_eq ⟨Int.le_refl 0, by show 0 ≤ C12; omega⟩ (fun i i0 i1 => by exfalso; have i2 : i < 0 := i1; omega), hG12.upB⟩
  · refine ok_aloadn (pc' := 72) i179_71 rfl rfl <| ok_iconst (pc' := 73) i179_72 rfl <| ok_putzj (kk := 2) (pc' := 76) i179_73 o179 pz179_73 (hS12.k) (by omega) rfl rfl <| ok_aloadn (pc' := 77) i179_76 rfl rfl <| ok_iloadn (pc' := 78) i179_77 rfl rfl <| ok_putfj (kk := 3) (pc' := 81) i179_78 o179 pi179_79 (hS12.k) rfl rfl <| ok_vret i179_81 rt179 <| kt_0 (pc' := 5) rfl <| ?_
    refine ok_vret i189_5 rt189 <| ?_
    exact ⟨rfl, _, _, SB.mk (t1 := t00) hS12 (rd_ni (by omega) (rd_ni (by omega) hS12.c)) rd_eq ⟨Int.le_refl 0, by show 0 ≤ C12; omega⟩ (fun i i0 i1 => by exfalso; have i2 : i < 0 := i1; omega), hG12.upB.upB⟩
theorem sb_new {g g1 : AG} {M M1 : AM} {B a : Nat} {N : Int} {f : Int → Int} (hO : OA g M B 18 f) (h0 : 100 ≤ B) (h1 : B < 100 + gN g) (ha : 100 + gN g = a) (hn : gN g1 = gN g + 1) (hk : gK g1 a = 21 ∧ (gL g1 a : Int) = N) (e : Fr FN 1 N.toNat g M g1 M1) (hN : 0 ≤ N) (hf : f 3 = 0) :
    SB (gN g1, gS g1, gK g1, gL g1, up2R (gR g1) B 0 a) (up2 M1 B 1 0) B a N t00 ∧ Fr (fun c => c = B) 1 N.toNat g M (gN g1, gS g1, gK g1, gL g1, up2R (gR g1) B 0 a) (up2 M1 B 1 0) := by
  refine ⟨⟨(e.k h1).trans hO.1, by show up2R (gR g1) B 0 a B 0 = a; unfold up2R upR; simp, hk.1, hk.2, rd_eq, rd_ni (by omega) (by rw [e.m0 h1, hO.2 3]; exact hf), ⟨Int.le_refl 0, hN⟩, fun i i0 i1 => by exfalso; have i2 : i < 0 := i1; omega, ?_⟩, ?_⟩
  · show 100 ≤ B ∧ B < 100 + gN g1 ∧ 100 ≤ a ∧ a < 100 + gN g1
    omega
  · exact ((e.of0 (F := fun c => c = B)).upr (Or.inl rfl)).up (Or.inl rfl)
/-- new StringBuilder() -/
theorem sbN {g : AG} {M : AM} {B : Nat} {f : Int → Int} (hO : OA g M B 18 f) (hf : f 3 = 0) (h0 : 100 ≤ B) (hB1 : B < 100 + gN g) : Ok 2 186 0 [aR B] [] g M (fun o g1 M1 => o = .inl none ∧ ∃ V : Nat, V = 100 + gN g ∧ SB g1 M1 B V 16 t00 ∧ Fr (fun c => c = B) 1 16 g M g1 M1) := by
  have hk18 := hO.1
  refine ok_aloadn (pc' := 1) i186_0 rfl rfl <| ok_bipush (v := 16) (pc' := 3) i186_1 rfl rfl <| ok_cc i186_3 rfl (cl_i o186 (Or.inl m18_1) na176 rfl rfl (bt rfl) (bt rfl) rfl (by rw [hk18]; decide)) ln176 (pd176 (aR B) (aI 16)) <| ok_aloadn (pc' := 1) i176_0 rfl rfl <| ok_objinit (pc' := 4) i176_1 o176 m24_3 (by rw [hk18]; decide) (bt rfl) rfl <| ok_gsta (pc' := 7) i176_4 o176 rfl <| ok_kz0 (pc1 := 25) (pc2 := 10) i176_7 (by decide) rfl rfl <| ok_aloadn (pc' := 11) i176_10 rfl rfl <| ?_
  refine ok_iloadn (pc' := 12) i176_11 rfl rfl <| ?_
  refine ok_nba (pc' := 14) i176_12 (by decide) rfl (fun xb1 gb1 Mb1 hx1 hn1 hk1 hz1 eb1 => ?_)
  have hk18 : gK gb1 B = 18 := (eb1.k hB1).trans hk18
  refine ok_putfr (pc' := 17) i176_14 o176 pr176_15 (hk18) rfl <| ok_aloadn (pc' := 18) i176_17 rfl rfl <| ok_iconst (pc' := 19) i176_18 rfl <| ok_putfb (pc' := 22) i176_19 o176 pb176_22 (hk18) (by omega) rfl <| ok_goto (pc' := 38) i176_22 rfl <| ok_vret i176_38 rt176 <| kt_0 (pc' := 6) rfl <| ok_vret i186_6 rt186 <| ?_
  exact ⟨rfl, _, rfl, by have h9 := sb_new hO h0 hB1 hx1 hn1 hk1 eb1 (by decide) hf; rw [hx1]; exact h9⟩
