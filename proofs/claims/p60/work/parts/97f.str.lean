/-! A STRING IS MADE (by program, wip/p60/gen) -/
theorem o190 : am_oc 190 = 18 := by decide +kernel
theorem ck18_18 : am_csk 18 18 19 = true := by decide +kernel
theorem m18_137 : am_mlk 18 137 2 157 = true := by decide +kernel
theorem na157 : am_na 157 = 1 := by decide +kernel
theorem nl157 : am_nL 157 = 2 := by decide +kernel
theorem pd157 : ∀ a0 a1 : AV, am_pad 157 [a0, a1] = [a0, a1] := by intros; unfold am_pad; rw [nl157]; rfl
theorem ln157 : 2 ≤ am_nL 157 := by rw [nl157]; decide
theorem o157 : am_oc 157 = 14 := by decide +kernel
theorem m14_489 : am_mlk 14 489 2 158 = true := by decide +kernel
theorem na158 : am_na 158 = 2 := by decide +kernel
theorem nl158 : am_nL 158 = 5 := by decide +kernel
theorem pd158 : ∀ a0 a1 a2 : AV, am_pad 158 [a0, a1, a2] = [a0, a1, a2, aU, aU] := by intros; unfold am_pad; rw [nl158]; rfl
theorem ln158 : 3 ≤ am_nL 158 := by rw [nl158]; decide
theorem o158 : am_oc 158 = 14 := by decide +kernel
theorem m14_1 : am_mlk 14 1 5 0 = true := by decide +kernel
theorem m14_552 : am_mlk 14 552 8 180 = true := by decide +kernel
theorem na180 : am_na 180 = 0 := by decide +kernel
theorem nl180 : am_nL 180 = 1 := by decide +kernel
theorem pd180 : ∀ a0 : AV, am_pad 180 [a0] = [a0] := by intros; unfold am_pad; rw [nl180]; rfl
theorem ln180 : 1 ≤ am_nL 180 := by rw [nl180]; decide
theorem o180 : am_oc 180 = 24 := by decide +kernel
theorem rt180 : am_rt 180 = some (.array .byte) := by decide +kernel
theorem m14_549 : am_mlk 14 549 8 187 = true := by decide +kernel
theorem m14_1047 : am_mlk 14 1047 8 171 = true := by decide +kernel
theorem pb158_15 : am_pfb 158 14 15 19 1 = true := by decide +kernel
theorem m14_54 : am_mlk 14 54 1 161 = true := by decide +kernel
theorem na161 : am_na 161 = 3 := by decide +kernel
theorem nl161 : am_nL 161 = 3 := by decide +kernel
theorem pd161 : ∀ a0 a1 a2 : AV, am_pad 161 [a0, a1, a2] = [a0, a1, a2] := by intros; unfold am_pad; rw [nl161]; rfl
theorem ln161 : 3 ≤ am_nL 161 := by rw [nl161]; decide
theorem o161 : am_oc 161 = 25 := by decide +kernel
theorem m25_310 : am_mlk 25 310 11 0 = true := by decide +kernel
theorem ck25_311 : am_csk 25 311 21 = true := by decide +kernel
theorem rt161 : am_rt 161 = some (.array .byte) := by decide +kernel
theorem pr158_9 : am_pfr 158 14 9 19 0 = true := by decide +kernel
theorem rt158 : am_rt 158 = none := by decide +kernel
theorem rt157 : am_rt 157 = none := by decide +kernel
theorem rt190 : am_rt 190 = some (.object "java/lang/String") := by decide +kernel
theorem m25_339 : am_mlk 25 339 1 162 = true := by decide +kernel
theorem na162 : am_na 162 = 3 := by decide +kernel
theorem nl162 : am_nL 162 = 5 := by decide +kernel
theorem pd162 : ∀ a0 a1 a2 : AV, am_pad 162 [a0, a1, a2] = [a0, a1, a2, aU, aU] := by intros; unfold am_pad; rw [nl162]; rfl
theorem ln162 : 3 ≤ am_nL 162 := by rw [nl162]; decide
theorem o162 : am_oc 162 = 25 := by decide +kernel
theorem m25_343 : am_mlk 25 343 1 163 = true := by decide +kernel
theorem na163 : am_na 163 = 2 := by decide +kernel
theorem nl163 : am_nL 163 = 2 := by decide +kernel
theorem pd163 : ∀ a0 a1 : AV, am_pad 163 [a0, a1] = [a0, a1] := by intros; unfold am_pad; rw [nl163]; rfl
theorem ln163 : 2 ≤ am_nL 163 := by rw [nl163]; decide
theorem o163 : am_oc 163 = 25 := by decide +kernel
theorem rt163 : am_rt 163 = none := by decide +kernel
theorem rt162 : am_rt 162 = some (.array .byte) := by decide +kernel
/-- a string that is made here -/
def S19 (g : AG) (M : AM) (S W : Nat) (t : Tx) : Prop := gK g S = 19 ∧ gR g S 0 = W ∧ gK g W = 21 ∧ (gL g W : Int) = t.1 ∧ M S 1 = 0 ∧ 0 ≤ t.1 ∧ (∀ i : Int, 0 ≤ i → i < t.1 → M W i = t.2 i ∧ 0 ≤ t.2 i ∧ t.2 i ≤ 127) ∧ (100 ≤ S ∧ S < 100 + gN g ∧ 100 ≤ W ∧ W < 100 + gN g)
section OK
variable {d mi pc pc' : Nat} {ls st : List AV} {g : AG} {M : AM} {Q : AO → AG → AM → Prop}
theorem ok_cloneF {oc idx a0 : Nat} (hi : am_ins mi pc = some (.invokevirtual idx)) (ho : am_oc mi = oc) (hm : am_mlk oc idx 11 0 = true) (hk : gK g a0 = 21) (hs : (st.map am_cat).sum ≤ 8) (hp : pc + 3 = pc') (k : ∀ (a : Nat) (g1 : AG) (M1 : AM), 100 + gN g = a → gN g1 = gN g + 1 → (gK g1 a = 21 ∧ gL g1 a = gL g a0) → (∀ i : Int, M1 a i = M a0 i) → Fr FN 1 (gL g a0) g M g1 M1 → Ok d mi pc' ls (aR a :: st) g1 M1 Q) : Ok d mi pc ls (aR a0 :: st) g M Q :=
  ok_clone hi ho hm hk hs hp (k _ _ _ rfl rfl ⟨al_k.1, al_k.2⟩ (fun i => congrFun upM_at i) (by
    have h := (Fr.rfl (F := FN) (g := g) (M := M)).al (kd := 21) (ln := gL g a0) (sl := gL g a0) (M2 := upM M (100 + gN g) (M a0)) (fun c hc => upM_na (by omega))
    rw [Nat.zero_add, Nat.zero_add] at h
    exact h))
end OK
theorem S19.mk {g g1 g2 : AG} {M M1 M2 M3 : AM} {B V S W sl : Nat} {C : Int} {t : Tx} (hS : SB g M B V C t) (hx1 : 100 + gN g = S) (hn1 : gN g1 = gN g + 1) (e1 : Fr FN 1 sl g M g1 M1) (hsl : sl = 4) (hx2 : 100 + gN g1 = W) (hn2 : gN g2 = gN g1 + 1) (hk2 : gK g2 W = 21 ∧ (gL g2 W : Int) = t.1) (e2 : Fr FN 1 t.1.toNat g1 (up2 M1 S 1 0) g2 M2) (hkS : gK g1 S = 19) (hm : ∀ i : Int, 0 ≤ i → i < t.1 → M3 W i = t.2 i) (ho : ∀ c : Nat, c ≠ W → M3 c = M2 c) :
    S19 (gN g2, gS g2, gK g2, gL g2, up2R (gR g2) S 0 W) M3 S W t ∧ Fr FN 2 (4 + t.1.toNat) g M (gN g2, gS g2, gK g2, gL g2, up2R (gR g2) S 0 W) M3 := by
  have hz := hS.z
  refine ⟨⟨(e2.k (by omega)).trans hkS, by show up2R (gR g2) S 0 W S 0 = W; unfold up2R upR; simp, hk2.1, hk2.2, ?_, hz.1, fun i i0 i1 => ⟨hm i i0 i1, (hS.m i i0 i1).2⟩, ?_⟩, ?_⟩
  · rw [ho S (by omega), e2.m0 (by omega)]; exact rd_eq
  · show 100 ≤ S ∧ S < 100 + gN g2 ∧ 100 ≤ W ∧ W < 100 + gN g2
    omega
  · have f1 : Fr FN 1 sl g M g1 (up2 M1 S 1 0) := e1.up (Or.inr (Nat.le_of_eq hx1))
    have f2 := (Fr.trans f1 e2).upr (a := S) (v := W) (x := 0) (Or.inr (Nat.le_of_eq hx1))
    have f3 : Fr FN (1 + 1) (sl + t.1.toNat) g M (gN g2, gS g2, gK g2, gL g2, up2R (gR g2) S 0 W) M3 := by
      obtain ⟨a1, a2, a3, a4⟩ := f2
      exact ⟨a1, a2, a3, fun c hc => ⟨(a4 c hc).1, fun hn => ⟨((a4 c hc).2 hn).1, (ho c (by omega)).trans ((a4 c hc).2 hn).2⟩⟩⟩
    exact Fr.w f3 (by omega) (by omega)
/-- toString -/
theorem sbT {g : AG} {M : AM} {B V : Nat} {C : Int} {t : Tx} (hS : SB g M B V C t) (hC : C ≤ 4000) (ht : t.1 ≤ 2000) : Ok 9 190 0 [aR B] [] g M (fun o g1 M1 => ∃ S W : Nat, o = .inl (some (aR S)) ∧ (100 + gN g = S ∧ 100 + gN g + 1 = W) ∧ S19 g1 M1 S W t ∧ Fr FN 2 (4 + t.1.toNat) g M g1 M1) := by
  have hz := hS.z
  have hA := hS.a
  refine ok_nw (sl := 4) (pc' := 3) i190_0 o190 ck18_18 (by decide) (by decide) rfl (fun S g1 M1 hx1 hn1 hA1 e1 => ?_)
  have hkS := hA1.1
  have hS1 : 100 ≤ S := by omega
  have hS2 : S < 100 + gN g1 := by omega
  have hSb0 := SB.fr hS e1 (fun e => e) (fun e => e)
  refine ok_dup (pc' := 4) i190_3 rfl rfl <| ok_aloadn (pc' := 5) i190_4 rfl rfl <| ok_cc i190_5 rfl (cl_i o190 (Or.inl m18_137) na157 rfl rfl (bt rfl) (bt rfl) rfl (by rw [hkS]; decide)) ln157 (pd157 (aR S) (aR B)) <| ok_aloadn (pc' := 1) i157_0 rfl rfl <| ok_aloadn (pc' := 2) i157_1 rfl rfl <| ok_null (pc' := 3) i157_2 rfl <| ok_cc i157_3 rfl (cl_i o157 (Or.inl m14_489) na158 rfl rfl (bt rfl) (bt rfl) rfl (by rw [hkS]; decide)) ln158 (pd158 (aR S) (aR B) (aR 0)) <| ok_aloadn (pc' := 1) i158_0 rfl rfl <| ?_
  refine ok_objinit (pc' := 4) i158_1 o158 m14_1 (by rw [hkS]; decide) (bt rfl) rfl <| ok_aloadn (pc' := 5) i158_4 rfl rfl <| ok_cc i158_5 rfl (cl_u o158 m14_552 na180 rfl rfl (bt rfl) (bt rfl) rfl hSb0.k) ln180 (pd180 (aR B)) <| ok_aloadn (pc' := 1) i180_0 rfl rfl <| ok_getfr (r := V) (pc' := 4) i180_1 o180 gr24_15 (hSb0.k) (hSb0.r) rfl <| ok_aret i180_4 (by rw [rt180]) <| kt_v (pc' := 8) rfl <| ok_astoren (pc' := 9) (ls' := [aR S, aR B, aR 0, aR V, aU]) i158_8 (bt rfl) rfl rfl <| ?_
  refine ok_aloadn (pc' := 10) i158_9 rfl rfl <| ok_cc i158_10 rfl (cl_u o158 m14_549 na187 rfl rfl (bt rfl) (bt rfl) rfl hSb0.k) ln187 (pd187 (aR B)) <| ok_aloadn (pc' := 1) i187_0 rfl rfl <| ok_cc i187_1 rfl (cl_w o187 m18_343 na177 rfl rfl (bt rfl) (bt rfl) rfl hSb0.k) ln177 (pd177 (aR B)) <| ok_aloadn (pc' := 1) i177_0 rfl rfl <| ok_getfi (v := t.1) (pc' := 4) i177_1 o177 gi24_79 (hSb0.k) (hSb0.n) rfl <| ok_ireti i177_4 rt177 <| kt_v (pc' := 4) rfl <| ?_
  refine ok_ireti i187_4 rt187 <| kt_v (pc' := 13) rfl <| ok_istore (pc' := 15) (ls' := [aR S, aR B, aR 0, aR V, aI t.1]) i158_13 (bt rfl) rfl rfl <| ok_aloadn (pc' := 16) i158_15 rfl rfl <| ok_cc i158_16 rfl (cl_u o158 m14_1047 na171 rfl rfl (bt rfl) (bt rfl) rfl hSb0.k) ln171 (pd171 (aR B)) <| ok_gsta (pc' := 3) i171_0 o171 rfl <| ok_kz0 (pc1 := 17) (pc2 := 6) i171_3 (by decide) rfl rfl <| ok_aloadn (pc' := 7) i171_6 rfl rfl <| ?_
  refine ok_getfi (v := 0) (pc' := 10) i171_7 o171 gi24_22 (hSb0.k) (hSb0.c) rfl <| ok_kz0 (pc1 := 17) (pc2 := 13) i171_10 (by decide) rfl rfl <| ok_iconst (pc' := 14) i171_13 rfl <| ok_goto (pc' := 18) i171_14 rfl <| ok_iretz i171_18 rt171 (by decide) <| kt_v (pc' := 19) rfl <| ok_kz0 (pc1 := 41) (pc2 := 22) i158_19 (by decide) rfl rfl <| ok_aloadn (pc' := 23) i158_22 rfl rfl <| ?_
  refine ok_iconst (pc' := 24) i158_23 rfl <| ok_putfb (pc' := 27) i158_24 o158 pb158_15 (hkS) (by omega) rfl <| ?_
  have hSc := SB.fr hSb0 (Fr.up (x := 1) (v := 0) (Fr.rfl (F := fun c => c = S)) (Or.inl rfl)) (fun e => by have := hS.a; omega) (fun e => by have := hS.a; omega)
  refine ok_aloadn (pc' := 28) i158_27 rfl rfl <| ok_aloadn (pc' := 29) i158_28 rfl rfl <| ok_iconst (pc' := 30) i158_29 rfl <| ok_iload (pc' := 32) i158_30 rfl rfl <| ok_cc i158_32 rfl (cl_s o158 m14_54 na161 rfl rfl (bt rfl) (bt rfl) rfl) ln161 (pd161 (aR V) (aI 0) (aI t.1)) <| ok_iloadn (pc' := 1) i161_0 rfl rfl <| ok_kz0 (pc1 := 10) (pc2 := 4) i161_1 (by decide) rfl rfl <| ok_iloadn (pc' := 5) i161_4 rfl rfl <| ?_
  refine ok_aloadn (pc' := 6) i161_5 rfl rfl <| ok_arrlen (v := C) (pc' := 7) i161_6 (hSc.v) (by decide) (hSc.l) rfl <| ?_
  refine ok_ceq (pc1 := 17) (pc2 := 10) i161_7 (by omega) rfl rfl (fun h1 => ?_) (fun h1 => ?_)
  · refine ok_aloadn (pc' := 18) i161_17 rfl rfl <| ?_
    have hl0 := hSc.l
    refine ok_cloneF (pc' := 21) i161_18 o161 m25_310 hSc.v (bt rfl) rfl (fun W g2 M2 hx2 hn2 hk2 hm2 e2 => ?_)
    have hkS2 := (e2.k hS2).trans hkS
    refine ok_cast (pc' := 24) i161_21 o161 ck25_311 (hk2.1) rfl <| ok_aret i161_24 (by rw [rt161]) <| kt_v (pc' := 35) rfl <| ok_putfr (pc' := 38) i158_35 o158 pr158_9 hkS2 rfl <| ok_goto (pc' := 97) i158_38 rfl <| ok_vret i158_97 rt158 <| kt_0 (pc' := 6) rfl <| ok_vret i157_6 rt157 <| ?_
    refine kt_0 (pc' := 8) rfl <| ok_aret i190_8 (by rw [rt190]) <| ?_
    exact ⟨S, W, rfl, ⟨hx1, by omega⟩, S19.mk hS hx1 hn1 e1 rfl hx2 hn2 ⟨hk2.1, by omega⟩ (Fr.w e2 (by omega) (by omega)) hkS (M3 := M2) (fun i i0 i1 => by rw [hm2 i]; exact (hSc.m i i0 i1).1) (fun c _ => rfl)⟩
  · refine ok_aloadn (pc' := 11) i161_10 rfl rfl <| ok_iloadn (pc' := 12) i161_11 rfl rfl <| ok_iloadn (pc' := 13) i161_12 rfl rfl <| ok_cc i161_13 rfl (cl_s o161 m25_339 na162 rfl rfl (bt rfl) (bt rfl) rfl) ln162 (pd162 (aR V) (aI 0) (aI t.1)) <| ok_iloadn (pc' := 1) i162_0 rfl rfl <| ok_iloadn (pc' := 2) i162_1 rfl rfl <| ok_cc i162_2 rfl (cl_s o162 m25_343 na163 rfl rfl (bt rfl) (bt rfl) rfl) ln163 (pd163 (aI 0) (aI t.1)) <| ok_iloadn (pc' := 1) i163_0 rfl rfl <| ?_
    refine ok_iloadn (pc' := 2) i163_1 rfl rfl <| ?_
    refine ok_cge (pc1 := 37) (pc2 := 5) i163_2 (by omega) rfl rfl (fun h2 => ?_) (fun h9 => by exfalso; omega)
    refine ok_vret i163_37 rt163 <| kt_0 (pc' := 5) rfl <| ok_iloadn (pc' := 6) i162_5 rfl rfl <| ok_iloadn (pc' := 7) i162_6 rfl rfl <| ok_isub (v := t.1) (pc' := 8) i162_7 (by omega) rfl <| ok_istoren (pc' := 9) (ls' := [aR V, aI 0, aI t.1, aI t.1, aU]) i162_8 (bt rfl) rfl rfl <| ok_iloadn (pc' := 10) i162_9 rfl rfl <| ?_
    refine ok_nba (pc' := 12) i162_10 (by omega) rfl (fun W g2 M2 hx2 hn2 hk2 hz2 e2 => ?_)
    have hkS2 := (e2.k hS2).trans hkS
    have hSd := SB.fr hSc e2 (fun e => e) (fun e => e)
    refine ok_astore (pc' := 14) (ls' := [aR V, aI 0, aI t.1, aI t.1, aR W]) i162_12 (bt rfl) rfl rfl <| ok_aloadn (pc' := 15) i162_14 rfl rfl <| ok_iloadn (pc' := 16) i162_15 rfl rfl <| ok_aload (pc' := 18) i162_16 rfl rfl <| ok_iconst (pc' := 19) i162_18 rfl <| ok_aloadn (pc' := 20) i162_19 rfl rfl <| ok_arrlen (v := C) (pc' := 21) i162_20 (hSd.v) (by decide) (hSd.l) rfl <| ok_iloadn (pc' := 22) i162_21 rfl rfl <| ?_
    refine ok_isub (v := C) (pc' := 23) i162_22 (by omega) rfl <| ok_iloadn (pc' := 24) i162_23 rfl rfl <| ok_min (v := (min C t.1)) (pc' := 27) i162_24 o162 m25_304 (by omega) (bt rfl) rfl rfl <| ?_
    have z3 : (min C t.1) ≤ C ∧ (min C t.1) ≤ t.1 := by omega
    have z4 : 0 ≤ (min C t.1) := by omega
    rw [show (min C t.1) = t.1 by omega]
    have hl1 := hSd.l
    have hl2 := hk2.2
    refine ok_bcopy (pc' := 30) i162_27 o162 m25_150 hk2.1 (Or.inl hSd.v) rfl rfl (by omega) (bt rfl) rfl <| ok_aload (pc' := 32) i162_30 rfl rfl <| ok_aret i162_32 (by rw [rt162]) <| kt_v (pc' := 16) rfl <| ok_aret i161_16 (by rw [rt161]) <| kt_v (pc' := 35) rfl <| ok_putfr (pc' := 38) i158_35 o158 pr158_9 hkS2 rfl <| ok_goto (pc' := 97) i158_38 rfl <| ?_
    refine ok_vret i158_97 rt158 <| kt_0 (pc' := 6) rfl <| ok_vret i157_6 rt157 <| kt_0 (pc' := 8) rfl <| ok_aret i190_8 (by rw [rt190]) <| ?_
    exact ⟨S, W, rfl, ⟨hx1, by omega⟩, S19.mk hS hx1 hn1 e1 rfl hx2 hn2 hk2 (Fr.w e2 (by omega) (by omega)) hkS (M3 := upM M2 W (am_cpy (M2 V) (M2 W) 0 0 t.1)) (fun i i0 i1 => by rw [upM_at]; unfold am_cpy; rw [if_pos ⟨i0, by omega⟩, show (0 : Int) + (i - 0) = i by omega]; exact (hSd.m i i0 i1).1) (fun c hc => upM_na hc)⟩
