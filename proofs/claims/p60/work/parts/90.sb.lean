/-! A STRINGBUILDER -/
/-- a StringBuilder at B, its bytes at V (C of them), the text t -/
def SB (g : AG) (M : AM) (B V : Nat) (C : Int) (t : Tx) : Prop := gK g B = 18 ∧ gR g B 0 = V ∧ gK g V = 21 ∧ (gL g V : Int) = C ∧ M B 1 = 0 ∧ M B 3 = t.1 ∧ (0 ≤ t.1 ∧ t.1 ≤ C) ∧ (∀ i : Int, 0 ≤ i → i < t.1 → M V i = t.2 i ∧ 0 ≤ t.2 i ∧ t.2 i ≤ 127) ∧ (100 ≤ B ∧ B < 100 + gN g ∧ 100 ≤ V ∧ V < 100 + gN g)
section SB
variable {g g1 : AG} {M M1 : AM} {B V V1 : Nat} {C C1 : Int} {t t1 : Tx}
theorem SB.k (h : SB g M B V C t) : gK g B = 18 := h.1
theorem SB.r (h : SB g M B V C t) : gR g B 0 = V := h.2.1
theorem SB.v (h : SB g M B V C t) : gK g V = 21 := h.2.2.1
theorem SB.l (h : SB g M B V C t) : (gL g V : Int) = C := h.2.2.2.1
theorem SB.c (h : SB g M B V C t) : M B 1 = 0 := h.2.2.2.2.1
theorem SB.n (h : SB g M B V C t) : M B 3 = t.1 := h.2.2.2.2.2.1
theorem SB.z (h : SB g M B V C t) : 0 ≤ t.1 ∧ t.1 ≤ C := h.2.2.2.2.2.2.1
theorem SB.m (h : SB g M B V C t) : ∀ i : Int, 0 ≤ i → i < t.1 → M V i = t.2 i ∧ 0 ≤ t.2 i ∧ t.2 i ≤ 127 := h.2.2.2.2.2.2.2.1
theorem SB.a (h : SB g M B V C t) : 100 ≤ B ∧ B < 100 + gN g ∧ 100 ≤ V ∧ V < 100 + gN g := h.2.2.2.2.2.2.2.2
theorem SB.d (h : SB g M B V C t) : B ≠ V := fun e => by
  have h1 := h.k
  have h2 := h.v
  rw [e] at h1
  rw [h1] at h2
  exact absurd h2 (by decide)
theorem SB.mk (h : SB g M B V C t) (h1 : M1 B 1 = 0) (h3 : M1 B 3 = t1.1) (hz : 0 ≤ t1.1 ∧ t1.1 ≤ C) (hm : ∀ i : Int, 0 ≤ i → i < t1.1 → M1 V i = t1.2 i ∧ 0 ≤ t1.2 i ∧ t1.2 i ≤ 127) : SB g M1 B V C t1 := ⟨h.k, h.r, h.v, h.l, h1, h3, hz, hm, h.a⟩
theorem SB.fr {F : Nat → Prop} {nc ns : Nat} (h : SB g M B V C t) (e : Fr F nc ns g M g1 M1) (hB : ¬ F B) (hV : ¬ F V) : SB g1 M1 B V C t := by
  have ha := h.a
  have hn := e.n
  refine ⟨(e.k ha.2.1).trans h.k, by rw [e.r ha.2.1 hB]; exact h.r, (e.k ha.2.2.2).trans h.v, by rw [e.l ha.2.2.2]; exact h.l, by rw [e.m ha.2.1 hB]; exact h.c, by rw [e.m ha.2.1 hB]; exact h.n, h.z, fun i i0 i1 => by rw [e.m ha.2.2.2 hV]; exact h.m i i0 i1, by omega⟩
/-- a letter more -/
theorem say_in {c i : Int} (hi : i < t.1) : (say t c).2 i = t.2 i := upI_ne (by omega)
theorem say_at {c : Int} : (say t c).2 t.1 = c := upI_eq
theorem SB.say {c : Int} (h : SB g M B V C t) (hC : t.1 < C) (hc : 0 ≤ c ∧ c ≤ 127) : SB g (up2 (up2 M B 3 (t.1 + 1)) V t.1 c) B V C (say t c) := by
  have hz := h.z
  refine h.mk (rd_na h.d (rd_ni (by omega) h.c)) (rd_na h.d rd_eq) ⟨by show 0 ≤ t.1 + 1; omega, by show t.1 + 1 ≤ C; omega⟩ (fun i i0 i1 => ?_)
  have i2 : i < t.1 + 1 := i1
  by_cases hi : i = t.1
  · subst hi
    rw [rd_eq, say_at]
    exact ⟨rfl, hc⟩
  · have hm := h.m i i0 (by omega)
    rw [say_in (by omega)]
    exact ⟨rd_ni hi (rd_na h.d.symm hm.1), hm.2⟩
/-- the bytes were written first -/
theorem SB.cnt {M0 : AM} (h : SB g M0 B V C t) (hz : 0 ≤ t1.1 ∧ t1.1 ≤ C) (ho : M1 B = M0 B) (hm : ∀ i : Int, 0 ≤ i → i < t1.1 → M1 V i = t1.2 i ∧ 0 ≤ t1.2 i ∧ t1.2 i ≤ 127) : SB g (up2 M1 B 3 t1.1) B V C t1 :=
  h.mk (rd_ni (by omega) (by rw [ho]; exact h.c)) rd_eq hz (fun i i0 i1 => ⟨rd_na h.d.symm (hm i i0 i1).1, (hm i i0 i1).2⟩)
def FB (B V : Nat) : Nat → Prop := fun c => c = B ∨ c = V
/-- what an append does to the rest -/
def Gr (g : AG) (M : AM) (g1 : AG) (M1 : AM) (B V V1 : Nat) (C C1 m : Int) : Prop := Fr (FB B V) 1 (2 * (C1 - C)).toNat g M g1 M1 ∧ (V1 = V ∨ V1 = 100 + gN g) ∧ C ≤ C1 ∧ (C1 ≤ C ∨ C1 ≤ 2 * m)
theorem Gr.hv {m : Int} (h : Gr g M g1 M1 B V V1 C C1 m) : FB B V V1 ∨ 100 + gN g ≤ V1 := by
  rcases h.2.1 with e | e
  · exact Or.inl (Or.inr e)
  · exact Or.inr (Nat.le_of_eq e.symm)
theorem Gr.upB {m x v : Int} (h : Gr g M g1 M1 B V V1 C C1 m) : Gr g M g1 (up2 M1 B x v) B V V1 C C1 m := ⟨h.1.up (Or.inl (Or.inl rfl)), h.2⟩
theorem Gr.upV {m x v : Int} (h : Gr g M g1 M1 B V V1 C C1 m) : Gr g M g1 (up2 M1 V1 x v) B V V1 C C1 m := ⟨h.1.up h.hv, h.2⟩
theorem Gr.upMV {m : Int} {f : Int → Int} (h : Gr g M g1 M1 B V V1 C C1 m) : Gr g M g1 (upM M1 V1 f) B V V1 C C1 m := ⟨h.1.upm h.hv, h.2⟩
theorem Gr.w {m m' : Int} (h : Gr g M g1 M1 B V V1 C C1 m) (hm : m ≤ m') : Gr g M g1 M1 B V V1 C C1 m' := ⟨h.1, h.2.1, h.2.2.1, by have := h.2.2.2; omega⟩
theorem Gr.rfl {m : Int} : Gr g M g M B V V C C m := ⟨Fr.w Fr.rfl (by omega) (by omega), Or.inl (Eq.refl V), Int.le_refl C, Or.inl (Int.le_refl C)⟩
/-- the bytes move to a longer array -/
theorem SB.grow {a : Nat} {N m : Int} (h : SB g M B V C t) (ha : 100 + gN g = a) (hn : gN g1 = gN g + 1) (hk : gK g1 a = 21 ∧ (gL g1 a : Int) = N) (e : Fr FN 1 N.toNat g M g1 M1) (hN : N = C + max (m - C) (C + 2)) (hm : C < m) :
    SB (gN g1, gS g1, gK g1, gL g1, up2R (gR g1) B 0 a) (upM M1 a (am_cpy (M1 V) (M1 a) 0 0 C)) B a N t ∧ m ≤ N ∧ Gr g M (gN g1, gS g1, gK g1, gL g1, up2R (gR g1) B 0 a) (upM M1 a (am_cpy (M1 V) (M1 a) 0 0 C)) B V a C N m := by
  have hA := h.a
  have hz := h.z
  have hBa : B ≠ a := by omega
  have hVa : V ≠ a := by omega
  refine ⟨⟨(e.k hA.2.1).trans h.k, by show up2R (gR g1) B 0 a B 0 = a; unfold up2R upR; simp, hk.1, hk.2, ?_, ?_, ⟨hz.1, by omega⟩, fun i i0 i1 => ?_, ?_⟩, by omega, ⟨?_, Or.inr ha.symm, by omega, by omega⟩⟩
  · exact rd_nM hBa (by rw [e.m0 hA.2.1]; exact h.c)
  · exact rd_nM hBa (by rw [e.m0 hA.2.1]; exact h.n)
  · have hm := h.m i i0 i1
    refine ⟨?_, hm.2⟩
    unfold upM
    rw [if_pos (Eq.refl a)]
    show am_cpy (M1 V) (M1 a) 0 0 C i = _
    unfold am_cpy
    rw [if_pos ⟨i0, by omega⟩, show (0 : Int) + (i - 0) = i by omega, e.m0 hA.2.2.2]
    exact hm.1
  · show 100 ≤ B ∧ B < 100 + gN g1 ∧ 100 ≤ a ∧ a < 100 + gN g1
    omega
  · exact Fr.w (((e.of0 (F := FB B V)).upr (Or.inl (Or.inl (Eq.refl B)))).upm (Or.inr (Nat.le_of_eq ha))) (by omega) (by omega)
end SB
theorem shl0 {x : Int} (h : -2147483648 ≤ x ∧ x < 2147483648) : am_shl x 0 = x := by
  unfold am_shl
  show (Int32.ofInt x <<< ((0 : Int32) &&& 31)).toInt = x
  rw [show ((0 : Int32) &&& 31) = 0 from rfl, Int32.shiftLeft_zero]
  exact Int32.toInt_ofInt_of_le (by omega) (by omega)
theorem shr0 {x : Int} (h : -2147483648 ≤ x ∧ x < 2147483648) : am_shr x 0 = x := by
  unfold am_shr
  show (Int32.ofInt x >>> ((0 : Int32) &&& 31)).toInt = x
  rw [show ((0 : Int32) &&& 31) = 0 from rfl, Int32.shiftRight_zero]
  exact Int32.toInt_ofInt_of_le (by omega) (by omega)
theorem and255 {x : Int} (h : 0 ≤ x ∧ x ≤ 127) : am_and x 255 = x := by
  have h1 : ∀ n : Nat, n < 128 → am_and (n : Int) 255 = n := by decide +kernel
  have h2 := h1 x.toNat (by omega)
  rw [Int.toNat_of_nonneg h.1] at h2
  exact h2
theorem bm127 {x : Int} (h : 0 ≤ x ∧ x ≤ 127) : x.bmod 256 = x := bm_id (by omega)
section OK
variable {d mi pc pc' : Nat} {ls st : List AV} {g : AG} {M : AM} {Q : AO → AG → AM → Prop}
theorem ok_nba {x : Int} (hi : am_ins mi pc = some (.newarray .byte)) (hx : 0 ≤ x ∧ x ≤ 100000) (hp : pc + 2 = pc') (k : ∀ (a : Nat) (g1 : AG) (M1 : AM), 100 + gN g = a → gN g1 = gN g + 1 → (gK g1 a = 21 ∧ (gL g1 a : Int) = x) → (∀ i : Int, M1 a i = 0) → Fr FN 1 x.toNat g M g1 M1 → Ok d mi pc' ls (aR a :: st) g1 M1 Q) : Ok d mi pc ls (aI x :: st) g M Q :=
  ok_newarr hi (by decide) hx hp (k _ _ _ rfl rfl ⟨al_k.1, by rw [al_k.2]; omega⟩ (fun i => az_0 i) (by
    have h := (Fr.rfl (F := FN) (g := g) (M := M)).al (kd := am_aat .byte) (ln := x.toNat) (sl := x.toNat) (M2 := am_zero g M) (fun c hc => az_s (by omega))
    rw [Nat.zero_add, Nat.zero_add] at h
    exact h))
end OK
/-- what never changes: strings and digits -/
def BS (g : AG) (M : AM) : Prop := ∀ c : Nat, 2 ≤ c → c < 100 → SG (am_g0 0) g c ∧ M c = am_M0 (fun _ => 0) c
theorem BS.fr {F : Nat → Prop} {nc ns : Nat} {g g1 : AG} {M M1 : AM} (h : BS g M) (e : Fr F nc ns g M g1 M1) (hF : ∀ c : Nat, c < 100 → ¬ F c) : BS g1 M1 := fun c c0 c1 => by
  obtain ⟨⟨h1, h2, h3⟩, h4⟩ := h c c0 c1
  exact ⟨⟨(e.k (by omega)).trans h1, (e.l (by omega)).trans h2, (e.r (by omega) (hF c c1)).trans h3⟩, (e.m (by omega) (hF c c1)).trans h4⟩
theorem BS.one {g : AG} {M : AM} (h : BS g M) : gK g 50 = 27 ∧ gL g 50 = 100 ∧ ∀ i : Int, M 50 i = 48 + i % 10 := by
  obtain ⟨⟨h1, h2, h3⟩, h4⟩ := h 50 (by decide) (by decide)
  exact ⟨h1.trans (by decide +kernel), h2.trans (by decide +kernel), fun i => by rw [h4]; rfl⟩
theorem BS.ten {g : AG} {M : AM} (h : BS g M) : gK g 51 = 27 ∧ gL g 51 = 100 ∧ ∀ i : Int, M 51 i = 48 + i / 10 := by
  obtain ⟨⟨h1, h2, h3⟩, h4⟩ := h 51 (by decide) (by decide)
  exact ⟨h1.trans (by decide +kernel), h2.trans (by decide +kernel), fun i => by rw [h4]; rfl⟩
def stx (j : Nat) (i : Int) : Int := (am_txt.getD j []).getD i.toNat 0
def stn (j : Nat) : Nat := (am_txt.getD j []).length
theorem BS.str {g : AG} {M : AM} (h : BS g M) {j : Nat} (hj : j < 16) : ShStr g (10 + 2 * j) (stn j) ∧ ∀ i : Int, 0 ≤ i → i < (stn j : Int) → M (10 + 2 * j + 1) i = stx j i := by
  obtain ⟨⟨h1, h2, h3⟩, h4⟩ := h (10 + 2 * j) (by omega) (by omega)
  obtain ⟨⟨g1, g2, g3⟩, g4⟩ := h (10 + 2 * j + 1) (by omega) (by omega)
  have k1 : ∀ j : Nat, j < 16 → gK (am_g0 0) (10 + 2 * j) = 14 ∧ gK (am_g0 0) (10 + 2 * j + 1) = 27 ∧ gL (am_g0 0) (10 + 2 * j + 1) = stn j := by decide +kernel
  have k2 := k1 j hj
  refine ⟨⟨h1.trans k2.1, by rw [h3]; rfl, g1.trans k2.2.1, g2.trans k2.2.2⟩, fun i i0 i1 => ?_⟩
  rw [g4]
  show (if 10 + 2 * j + 1 = 1 then _ else if 10 + 2 * j + 1 = 50 then _ else if 10 + 2 * j + 1 = 51 then _ else (am_txt.getD ((10 + 2 * j + 1 - 11) / 2) []).getD i.toNat 0) = _
  rw [if_neg (by omega), if_neg (by omega), if_neg (by omega), show (10 + 2 * j + 1 - 11) / 2 = j by omega]
  rfl
