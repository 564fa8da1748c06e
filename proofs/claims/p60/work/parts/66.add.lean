/-! WHAT IS ADDED TO THE YARD -/
/-- an object that is made here -/
def OA (g : AG) (M : AM) (a ci : Nat) (f : Int → Int) : Prop := gK g a = ci ∧ ∀ i : Int, M a i = f i
theorem OA.up {g : AG} {M : AM} {a ci : Nat} {x v : Int} {f : Int → Int} (h : OA g M a ci f) : OA g (up2 M a x v) a ci (upI f x v) := ⟨h.1, fun i => rw2 (by omega) (h.2 i)⟩
theorem OA.aa {g g1 : AG} {M : AM} {a ci : Nat} {f : Int → Int} (h : OA g M a ci f) (kl : gK g1 = gK g ∧ gL g1 = gL g) : OA g1 M a ci f := ⟨by rw [kl.1]; exact h.1, h.2⟩
section OK
variable {d mi pc pc' : Nat} {ls st : List AV} {g : AG} {M : AM} {Q : AO → AG → AM → Prop}
theorem ok_nia {x : Int} (hi : am_ins mi pc = some (.newarray .int)) (hx : 0 ≤ x ∧ x ≤ 1000) (hp : pc + 2 = pc') (k : ∀ (a : Nat) (g1 : AG) (M1 : AM), 100 + gN g = a → gN g1 = gN g + 1 → IA g1 M1 a x (fun _ => 0) → Fr FN 1 x.toNat g M g1 M1 → Ok d mi pc' ls (aR a :: st) g1 M1 Q) : Ok d mi pc ls (aI x :: st) g M Q :=
  ok_newarr hi (by decide) ⟨hx.1, by omega⟩ hp (k _ _ _ rfl rfl ⟨al_k.1, by rw [al_k.2]; omega, fun i _ _ => az_0 i⟩ (by
    have h := (Fr.rfl (F := FN) (g := g) (M := M)).al (kd := am_aat .int) (ln := x.toNat) (sl := x.toNat) (M2 := am_zero g M) (fun c hc => az_s (by omega))
    rw [Nat.zero_add, Nat.zero_add] at h
    exact h))
theorem ok_nw {oc idx ci sl : Nat} (hi : am_ins mi pc = some (.new idx)) (ho : am_oc mi = oc) (hc : am_csk oc idx ci = true) (h10 : am_ob ci) (hs : am_inst.getD ci 0 = sl) (hp : pc + 3 = pc') (k : ∀ (a : Nat) (g1 : AG) (M1 : AM), 100 + gN g = a → gN g1 = gN g + 1 → OA g1 M1 a ci (fun _ => 0) → Fr FN 1 sl g M g1 M1 → Ok d mi pc' ls (aR a :: st) g1 M1 Q) : Ok d mi pc ls st g M Q := by
  subst hs
  exact ok_new hi ho hc h10 hp (k _ _ _ rfl rfl ⟨al_k.1, fun i => az_0 i⟩ (by
    have h := (Fr.rfl (F := FN) (g := g) (M := M)).al (kd := ci) (ln := 0) (sl := am_inst.getD ci 0) (M2 := am_zero g M) (fun c hc => az_s (by omega))
    rw [Nat.zero_add, Nat.zero_add] at h
    exact h))
end OK
section AA
variable {g0 g g1 : AG} {M0 M : AM} {O a0 nc ns : Nat} {A : YA} {s q : Int → Int} {x : Int} {F : Nat → Prop}
theorem Fr.aa (h : Fr F nc ns g0 M0 g M) (hF : F a0) (n : gN g1 = gN g) (z : gS g1 = gS g) (kl : gK g1 = gK g ∧ gL g1 = gL g) (o : ∀ c : Nat, c ≠ a0 → SG g g1 c) : Fr F nc ns g0 M0 g1 M := by
  obtain ⟨a1, a2, a3, a4⟩ := h
  refine ⟨by omega, by omega, by omega, fun c hc => ⟨by rw [kl.1, kl.2]; exact (a4 c hc).1, fun hn => ⟨?_, ((a4 c hc).2 hn).2⟩⟩⟩
  rw [(o c (fun e => hn (e ▸ hF))).2.2]
  exact ((a4 c hc).2 hn).1
theorem IA.aa {a : Nat} {n : Int} {f : Int → Int} (h : IA g M a n f) (kl : gK g1 = gK g ∧ gL g1 = gL g) : IA g1 M a n f := by
  unfold IA
  rw [kl.1, kl.2]
  exact h
theorem Ou.aa {c : Nat} (h : Ou g O c) (n : gN g1 = gN g) : Ou g1 O c := by
  unfold Ou
  rw [n]
  exact h
/-- an entry is written behind the last -/
theorem Yd.aa (h : Yd g M O A s q) (ha : (a0 = 106 ∧ s 5 ≤ x) ∨ (a0 = 107 ∧ s 3 ≤ x) ∨ (a0 = 108 ∧ s 4 ≤ x)) (n : gN g1 = gN g) (kl : gK g1 = gK g ∧ gL g1 = gL g) (r : ∀ j : Int, j ≠ x → gR g1 a0 j = gR g a0 j) (o : ∀ c : Nat, c ≠ a0 → SG g g1 c) : Yd g1 M O A s q := by
  obtain ⟨G, m, ct, li⟩ := h
  have ou : ∀ c : Nat, Ou g O c → Ou g1 O c := fun c hc => hc.aa n
  have k1 := kl.1
  have k2 := kl.2
  have r6 : ∀ k : Int, 0 ≤ k → k < s 5 → gR g1 106 k = gR g 106 k := fun k _ hk => by
    by_cases e : a0 = 106
    · subst e; exact r k (by omega)
    · exact congrFun (o 106 (fun h => e h.symm)).2.2 k
  have r7 : ∀ k : Int, 0 ≤ k → k < s 3 → gR g1 107 k = gR g 107 k := fun k _ hk => by
    by_cases e : a0 = 107
    · subst e; exact r k (by omega)
    · exact congrFun (o 107 (fun h => e h.symm)).2.2 k
  have r8 : ∀ k : Int, 0 ≤ k → k < s 4 → gR g1 108 k = gR g 108 k := fun k _ hk => by
    by_cases e : a0 = 108
    · subst e; exact r k (by omega)
    · exact congrFun (o 108 (fun h => e h.symm)).2.2 k
  have rr : ∀ c : Nat, c = 101 ∨ c = 104 ∨ c = 105 → gR g1 c = gR g c := fun c hc => (o c (by omega)).2.2
  refine ⟨⟨by rw [n]; exact G.n, G.o, by rw [k1]; exact G.ky, by rw [k1]; exact G.k4, by rw [k2]; exact G.l4, by rw [k1]; exact G.k5, by rw [k2]; exact G.l5, by rw [k1]; exact G.k6, by rw [k2]; exact G.l6, by rw [k1]; exact G.k7, by rw [k2]; exact G.l7, by rw [k1]; exact G.k8, by rw [k2]; exact G.l8, by rw [k1]; exact G.k9, by rw [k2]; exact G.l9, by rw [k1]; exact G.ka, by rw [k2]; exact G.la, by rw [rr 101 (by omega)]; exact G.r1, by rw [rr 101 (by omega)]; exact G.r2, by rw [rr 101 (by omega)]; exact G.r3, by rw [rr 101 (by omega)]; exact G.r4, by rw [rr 101 (by omega)]; exact G.r5, by rw [rr 101 (by omega)]; exact G.r6, by rw [rr 101 (by omega)]; exact G.r7, ?_, G.ri, ?_, G.di, ?_, ?_, ?_⟩, m, ?_, li⟩
  · intro k k0 k3
    rw [r7 k k0 k3, k1]
    exact ⟨(G.rr k k0 k3).1, ou _ (G.rr k k0 k3).2.1, (G.rr k k0 k3).2.2⟩
  · intro k k0 k3
    rw [r8 k k0 k3, k1]
    exact ⟨(G.dd k k0 k3).1, ou _ (G.dd k k0 k3).2.1, (G.dd k k0 k3).2.2⟩
  · intro k k0 k3
    rw [rr 104 (by omega), k1, k2]
    exact ⟨(G.kk k k0 k3).1, ou _ (G.kk k k0 k3).2.1, (G.kk k k0 k3).2.2⟩
  · intro k k0 k3
    rw [rr 105 (by omega), k1, k2]
    exact ⟨(G.pp k k0 k3).1, ou _ (G.pp k k0 k3).2.1, (G.pp k k0 k3).2.2⟩
  · intro k k0 k3
    rw [r6 k k0 k3, k1, k2]
    exact ⟨ou _ (G.cc k k0 k3).1, (G.cc k k0 k3).2⟩
  · intro k k0 k3
    rw [r6 k k0 k3]
    exact ct k k0 k3
end AA
def logT (t f : Int → Int) : Int → Int := upI (upI (upI (upI (upI t (743 + (4 * t 5)) (f 0)) ((743 + (4 * t 5)) + 1) (f 1)) ((743 + (4 * t 5)) + 2) (f 2)) ((743 + (4 * t 5)) + 3) (f 3)) 5 (t 5 + 1)
theorem logT_5 {t f : Int → Int} : logT t f 5 = t 5 + 1 := upI_eq
theorem logT_lo {t f : Int → Int} {k : Int} (h0 : 0 ≤ t 5) (h : k < 743 ∧ k ≠ 5) : logT t f k = t k := by
  unfold logT
  rw [upI_ne (by omega), upI_ne (by omega), upI_ne (by omega), upI_ne (by omega), upI_ne (by omega)]
theorem logT_old {t f : Int → Int} {k i : Int} (h0 : 0 ≤ k ∧ k < t 5) (hi : 0 ≤ i ∧ i < 4) : logT t f ((743 + (4 * k)) + i) = t ((743 + (4 * k)) + i) := by
  unfold logT
  rw [upI_ne (by omega), upI_ne (by omega), upI_ne (by omega), upI_ne (by omega), upI_ne (by omega)]
theorem logT_new {t f : Int → Int} {i : Int} (h0 : 0 ≤ t 5) (hi : 0 ≤ i ∧ i < 4) : logT t f ((743 + (4 * t 5)) + i) = f i := by
  unfold logT
  rw [upI_ne (by omega)]
  rcases (show i = 0 ∨ i = 1 ∨ i = 2 ∨ i = 3 by omega) with rfl | rfl | rfl | rfl
  · rw [upI_ne (by omega), upI_ne (by omega), upI_ne (by omega), Int.add_zero, upI_eq]
  · rw [upI_ne (by omega), upI_ne (by omega), upI_eq]
  · rw [upI_ne (by omega), upI_eq]
  · rw [upI_eq]
theorem Yd.c20 {g : AG} {M : AM} {O : Nat} {A : YA} {s q : Int → Int} (h : Yd g M O A s q) {c : Nat} (hc : c ≤ 110) : (∀ k : Int, 0 ≤ k → k < s 3 → A.R k ≠ c) ∧ (∀ k : Int, 0 ≤ k → k < s 4 → A.D k ≠ c) ∧ (∀ k : Int, 0 ≤ k → k < q 0 → A.K k ≠ c) ∧ (∀ k : Int, 0 ≤ k → k < q 1 → A.P k ≠ c) ∧ (∀ k : Int, 0 ≤ k → k < s 5 → gR g 106 k ≠ c) := by
  refine ⟨fun k k0 k1 => ?_, fun k k0 k1 => ?_, fun k k0 k1 => ?_, fun k k0 k1 => ?_, fun k k0 k1 => ?_⟩
  · have := (h.gr.rr k k0 k1).2.1.1; omega
  · have := (h.gr.dd k k0 k1).2.1.1; omega
  · have := (h.gr.kk k k0 k1).2.1.1; omega
  · have := (h.gr.pp k k0 k1).2.1.1; omega
  · have := (h.gr.cc k k0 k1).1.1; omega
theorem Yd.log {g : AG} {M : AM} {O a : Nat} {A : YA} {t q f : Int → Int} (h : Yd g M O A t q) (h5 : t 5 < 60) (ha : gR g 106 (t 5) = a) (ho : Ou g O a) (hI : IA g M a 4 f) : Yd g (up2 M 101 12 (t 5 + 1)) O A (logT t f) q := by
  have hc := h.c20 (c := 101) (by omega)
  obtain ⟨G, m, ct, ⟨l3, l4, l5, lq⟩⟩ := h
  have e3 : logT t f 3 = t 3 := logT_lo l5.1 (by omega)
  have e4 : logT t f 4 = t 4 := logT_lo l5.1 (by omega)
  have e5 : logT t f 5 = t 5 + 1 := logT_5
  have hao := ho.1
  refine ⟨?_, ⟨?_, ?_, ?_, ?_, ?_, ?_, ?_⟩, ?_, by rw [e3, e4, e5]; exact ⟨l3, l4, ⟨by omega, by omega⟩, lq⟩⟩
  · rw [e3, e4, e5]
    refine ⟨G.n, G.o, G.ky, G.k4, G.l4, G.k5, G.l5, G.k6, G.l6, G.k7, G.l7, G.k8, G.l8, G.k9, G.l9, G.ka, G.la, G.r1, G.r2, G.r3, G.r4, G.r5, G.r6, G.r7, G.rr, G.ri, G.dd, G.di, G.kk, G.pp, fun k k0 k1 => ?_⟩
    rcases (show k < t 5 ∨ k = t 5 by omega) with h | h
    · exact G.cc k k0 h
    · rw [h, ha]
      exact ⟨ho, hI.1, by have := hI.2.1; omega⟩
  · intro c y z hcl
    rw [e3, e4] at hcl
    have hm := m.cl c y z hcl
    by_cases e : c = 101 ∧ y = 12
    · have hz : z = 5 := by
        obtain ⟨rfl, rfl⟩ := e
        rcases hcl with h | h | h | ⟨k, k0, k1, _, h⟩ | ⟨k, k0, k1, _, h⟩ <;> omega
      rw [up2_rd, if_pos e, hz, e5]
    · have hz : z < 743 ∧ z ≠ 5 := by
        rcases hcl with h | h | h | ⟨k, k0, k1, _, h⟩ | ⟨k, k0, k1, _, h⟩ <;> omega
      rw [up2_rd, if_neg e, logT_lo l5.1 hz]
      exact hm
  · intro k k0 k1
    rw [e3] at k1
    rw [up2_na (hc.1 k k0 k1)]
    exact m.rn k k0 k1
  · intro k k0 k1
    rw [e4] at k1
    rw [up2_na (hc.2.1 k k0 k1)]
    exact m.dn k k0 k1
  · rw [up2_rd, if_neg (by omega)]; exact m.q0
  · rw [up2_rd, if_neg (by omega)]; exact m.q1
  · intro k k0 k1
    rw [up2_na (hc.2.2.1 k k0 k1)]
    exact m.kk k k0 k1
  · intro k k0 k1
    rw [up2_na (hc.2.2.2.1 k k0 k1)]
    exact m.pp k k0 k1
  · intro k k0 k1 i i0 i1
    rw [e5] at k1
    rcases (show k < t 5 ∨ k = t 5 by omega) with h | h
    · rw [up2_na (hc.2.2.2.2 k k0 h), logT_old ⟨k0, h⟩ ⟨i0, i1⟩]
      exact ct k k0 h i i0 i1
    · rw [h, ha, up2_na (by omega), logT_new l5.1 ⟨i0, i1⟩]
      exact hI.2.2 i i0 i1
theorem addT_ne {s : Int → Int} {k l z : Int} (h : z ≠ 3 ∧ z ≠ 14 + s 3 ∧ z ≠ 94 + s 3 ∧ z ≠ 174 + s 3 ∧ z ≠ 254 + s 3 ∧ z ≠ 334 + s 3) : addT s k l z = s z := by
  unfold addT
  rw [upI_ne (by omega), upI_ne (by omega), upI_ne (by omega), upI_ne (by omega), upI_ne (by omega), upI_ne (by omega)]
/-- a rod is added -/
theorem Yd.addR {g : AG} {M : AM} {O a : Nat} {A : YA} {s q : Int → Int} {k l : Int} (h : Yd g M O A s q) (h3 : s 3 < 80) (ha : gR g 107 (s 3) = a) (ho : Ou g O a) (hk : gK g a = 16) (hn : ∀ j : Int, 0 ≤ j → j < s 3 → A.R j ≠ a) (m0 : M a 0 = s 3) (m1 : M a 1 = k) (m2 : M a 2 = l) (m3 : M a 3 = 0) (m4 : M a 4 = 0) (m5 : M a 5 = 0) : Yd g (up2 M 101 10 (s 3 + 1)) O (fun j => if j = s 3 then a else A.R j, A.2) (addT s k l) q := by
  have hc := h.c20 (c := 101) (by omega)
  obtain ⟨G, m, ct, ⟨l3, l4, l5, lq⟩⟩ := h
  have hA : ∀ j : Int, YA.R (fun j => if j = s 3 then a else A.R j, A.2) j = if j = s 3 then a else A.R j := fun _ => rfl
  have e3 : addT s k l 3 = s 3 + 1 := upI_eq
  have e4 : addT s k l 4 = s 4 := addT_ne (by omega)
  have e5 : addT s k l 5 = s 5 := addT_ne (by omega)
  have hao := ho.1
  refine ⟨?_, ⟨?_, ?_, ?_, ?_, ?_, ?_, ?_⟩, ?_, by rw [e3, e4, e5]; exact ⟨by omega, l4, l5, lq⟩⟩
  · rw [e3, e4, e5]
    refine ⟨G.n, G.o, G.ky, G.k4, G.l4, G.k5, G.l5, G.k6, G.l6, G.k7, G.l7, G.k8, G.l8, G.k9, G.l9, G.ka, G.la, G.r1, G.r2, G.r3, G.r4, G.r5, G.r6, G.r7, fun j j0 j1 => ?_, fun i j i0 i1 j0 j1 => ?_, G.dd, G.di, G.kk, G.pp, G.cc⟩
    · rw [hA]
      split
      · next e => rw [e]; exact ⟨ha, ho, hk⟩
      · exact G.rr j j0 (by omega)
    · rw [hA, hA]
      split
      · split
        · intro _; omega
        · next e1 e2 => intro e; exact absurd e.symm (hn j j0 (by omega))
      · split
        · next e1 e2 => intro e; exact absurd e (hn i i0 (by omega))
        · exact G.ri i j i0 (by omega) j0 (by omega)
  · intro c y z hcl
    rw [e3, e4] at hcl
    rcases hcl with h | h | h | ⟨j, j0, j1, rfl, y0, y1, hz⟩ | ⟨j, j0, j1, rfl, y0, y1, hz⟩
    · obtain ⟨rfl, hy⟩ := h
      by_cases e : y = 10
      · subst e
        have hz : z = 3 := by omega
        rw [rd_eq, hz, e3]
      · rw [up2_rd, if_neg (by omega), addT_ne (by omega)]
        exact m.cl _ _ _ (Or.inl ⟨rfl, hy⟩)
    · rw [up2_na (by omega), addT_ne (by omega)]
      exact m.cl _ _ _ (Or.inr (Or.inl h))
    · rw [up2_na (by omega), addT_ne (by omega)]
      exact m.cl _ _ _ (Or.inr (Or.inr (Or.inl h)))
    · rw [hA]
      split
      · next e =>
        rw [up2_na (by omega)]
        unfold addT
        rcases (show y = 1 ∨ y = 2 ∨ y = 3 ∨ y = 4 ∨ y = 5 by omega) with rfl | rfl | rfl | rfl | rfl
        · rw [m1, show z = 14 + s 3 by omega, upI_ne (by omega), upI_ne (by omega), upI_ne (by omega), upI_ne (by omega), upI_ne (by omega), upI_eq]
        · rw [m2, show z = 94 + s 3 by omega, upI_ne (by omega), upI_ne (by omega), upI_ne (by omega), upI_ne (by omega), upI_eq]
        · rw [m3, show z = 174 + s 3 by omega, upI_ne (by omega), upI_ne (by omega), upI_ne (by omega), upI_eq]
        · rw [m4, show z = 254 + s 3 by omega, upI_ne (by omega), upI_ne (by omega), upI_eq]
        · rw [m5, show z = 334 + s 3 by omega, upI_ne (by omega), upI_eq]
      · next e =>
        have j2 : j < s 3 := by omega
        rw [up2_na (hc.1 j j0 j2), addT_ne (by omega)]
        exact m.cl _ _ _ (Or.inr (Or.inr (Or.inr (Or.inl ⟨j, j0, j2, rfl, y0, y1, hz⟩))))
    · have d1 : YA.D (fun j => if j = s 3 then a else A.R j, A.2) j = A.D j := rfl
      rw [d1, up2_na (hc.2.1 j j0 j1), addT_ne (by omega)]
      exact m.cl _ _ _ (Or.inr (Or.inr (Or.inr (Or.inr ⟨j, j0, j1, rfl, y0, y1, hz⟩))))
  · intro j j0 j1
    rw [e3] at j1
    rw [hA]
    split
    · next e => rw [up2_na (by omega), e]; exact m0
    · rw [up2_na (hc.1 j j0 (by omega))]; exact m.rn j j0 (by omega)
  · intro j j0 j1
    rw [e4] at j1
    have d1 : YA.D (fun j => if j = s 3 then a else A.R j, A.2) j = A.D j := rfl
    rw [d1, up2_na (hc.2.1 j j0 j1)]
    exact m.dn j j0 j1
  · rw [up2_rd, if_neg (by omega)]; exact m.q0
  · rw [up2_rd, if_neg (by omega)]; exact m.q1
  · intro j j0 j1
    have d1 : YA.K (fun j => if j = s 3 then a else A.R j, A.2) j = A.K j := rfl
    rw [d1, up2_na (hc.2.2.1 j j0 j1)]
    exact m.kk j j0 j1
  · intro j j0 j1
    have d1 : YA.P (fun j => if j = s 3 then a else A.R j, A.2) j = A.P j := rfl
    rw [d1, up2_na (hc.2.2.2.1 j j0 j1)]
    exact m.pp j j0 j1
  · intro j j0 j1 i i0 i1
    rw [e5] at j1
    rw [up2_na (hc.2.2.2.2 j j0 j1), addT_ne (by omega)]
    exact ct j j0 j1 i i0 i1
theorem ordS_ne {s : Int → Int} {l n v d z : Int} (h : z ≠ 4 ∧ (z < 414 + (8 * s 4) ∨ 414 + (8 * s 4) + 8 ≤ z)) : ordS s l n v d z = s z := by
  unfold ordS
  rw [upI_ne (by omega), upI_ne (by omega), upI_ne (by omega), upI_ne (by omega), upI_ne (by omega), upI_ne (by omega), upI_ne (by omega), upI_ne (by omega), upI_ne (by omega)]
/-- an order is added -/
theorem Yd.addD {g : AG} {M : AM} {O a : Nat} {A : YA} {s q : Int → Int} {l n v w : Int} (h : Yd g M O A s q) (h4 : s 4 < 16) (ha : gR g 108 (s 4) = a) (ho : Ou g O a) (hk : gK g a = 15) (hn : ∀ j : Int, 0 ≤ j → j < s 4 → A.D j ≠ a) (m0 : M a 0 = s 4) (m1 : M a 1 = l) (m2 : M a 2 = n) (m3 : M a 3 = v) (m4 : M a 4 = w) (m5 : M a 5 = n) (m6 : M a 6 = 0) (m7 : M a 7 = 0) (m8 : M a 8 = 0) : Yd g (up2 M 101 11 (s 4 + 1)) O (A.1, fun j => if j = s 4 then a else A.D j, A.2.2) (ordS s l n v w) q := by
  have hc := h.c20 (c := 101) (by omega)
  obtain ⟨G, m, ct, ⟨l3, l4, l5, lq⟩⟩ := h
  have hA : ∀ j : Int, YA.D (A.1, fun j => if j = s 4 then a else A.D j, A.2.2) j = if j = s 4 then a else A.D j := fun _ => rfl
  have hR : ∀ j : Int, YA.R (A.1, fun j => if j = s 4 then a else A.D j, A.2.2) j = A.R j := fun _ => rfl
  have e3 : ordS s l n v w 3 = s 3 := ordS_ne (by omega)
  have e4 : ordS s l n v w 4 = s 4 + 1 := upI_eq
  have e5 : ordS s l n v w 5 = s 5 := ordS_ne (by omega)
  have hao := ho.1
  refine ⟨?_, ⟨?_, ?_, ?_, ?_, ?_, ?_, ?_⟩, ?_, by rw [e3, e4, e5]; exact ⟨l3, by omega, l5, lq⟩⟩
  · rw [e3, e4, e5]
    refine ⟨G.n, G.o, G.ky, G.k4, G.l4, G.k5, G.l5, G.k6, G.l6, G.k7, G.l7, G.k8, G.l8, G.k9, G.l9, G.ka, G.la, G.r1, G.r2, G.r3, G.r4, G.r5, G.r6, G.r7, G.rr, G.ri, fun j j0 j1 => ?_, fun i j i0 i1 j0 j1 => ?_, G.kk, G.pp, G.cc⟩
    · rw [hA]
      split
      · next e => rw [e]; exact ⟨ha, ho, hk⟩
      · exact G.dd j j0 (by omega)
    · rw [hA, hA]
      split
      · split
        · intro _; omega
        · next e1 e2 => intro e; exact absurd e.symm (hn j j0 (by omega))
      · split
        · next e1 e2 => intro e; exact absurd e (hn i i0 (by omega))
        · exact G.di i j i0 (by omega) j0 (by omega)
  · intro c y z hcl
    rw [e3, e4] at hcl
    rcases hcl with h | h | h | ⟨j, j0, j1, rfl, y0, y1, hz⟩ | ⟨j, j0, j1, rfl, y0, y1, hz⟩
    · obtain ⟨rfl, hy⟩ := h
      by_cases e : y = 11
      · subst e
        have hz : z = 4 := by omega
        rw [rd_eq, hz, e4]
      · rw [up2_rd, if_neg (by omega), ordS_ne (by omega)]
        exact m.cl _ _ _ (Or.inl ⟨rfl, hy⟩)
    · rw [up2_na (by omega), ordS_ne (by omega)]
      exact m.cl _ _ _ (Or.inr (Or.inl h))
    · rw [up2_na (by omega), ordS_ne (by omega)]
      exact m.cl _ _ _ (Or.inr (Or.inr (Or.inl h)))
    · rw [hR, up2_na (hc.1 j j0 j1), ordS_ne (by omega)]
      exact m.cl _ _ _ (Or.inr (Or.inr (Or.inr (Or.inl ⟨j, j0, j1, rfl, y0, y1, hz⟩))))
    · rw [hA]
      split
      · next e =>
        rw [up2_na (by omega)]
        unfold ordS
        rcases (show y = 1 ∨ y = 2 ∨ y = 3 ∨ y = 4 ∨ y = 5 ∨ y = 6 ∨ y = 7 ∨ y = 8 by omega) with rfl | rfl | rfl | rfl | rfl | rfl | rfl | rfl
        · rw [m1, show z = 414 + (8 * s 4) by omega, upI_ne (by omega), upI_ne (by omega), upI_ne (by omega), upI_ne (by omega), upI_ne (by omega), upI_ne (by omega), upI_ne (by omega), upI_ne (by omega), upI_eq]
        · rw [m2, show z = (414 + (8 * s 4)) + 1 by omega, upI_ne (by omega), upI_ne (by omega), upI_ne (by omega), upI_ne (by omega), upI_ne (by omega), upI_ne (by omega), upI_ne (by omega), upI_eq]
        · rw [m3, show z = (414 + (8 * s 4)) + 2 by omega, upI_ne (by omega), upI_ne (by omega), upI_ne (by omega), upI_ne (by omega), upI_ne (by omega), upI_ne (by omega), upI_eq]
        · rw [m4, show z = (414 + (8 * s 4)) + 3 by omega, upI_ne (by omega), upI_ne (by omega), upI_ne (by omega), upI_ne (by omega), upI_ne (by omega), upI_eq]
        · rw [m5, show z = (414 + (8 * s 4)) + 4 by omega, upI_ne (by omega), upI_ne (by omega), upI_ne (by omega), upI_ne (by omega), upI_eq]
        · rw [m6, show z = (414 + (8 * s 4)) + 5 by omega, upI_ne (by omega), upI_ne (by omega), upI_ne (by omega), upI_eq]
        · rw [m7, show z = (414 + (8 * s 4)) + 6 by omega, upI_ne (by omega), upI_ne (by omega), upI_eq]
        · rw [m8, show z = (414 + (8 * s 4)) + 7 by omega, upI_ne (by omega), upI_eq]
      · next e =>
        have j2 : j < s 4 := by omega
        rw [up2_na (hc.2.1 j j0 j2), ordS_ne (by omega)]
        exact m.cl _ _ _ (Or.inr (Or.inr (Or.inr (Or.inr ⟨j, j0, j2, rfl, y0, y1, hz⟩))))
  · intro j j0 j1
    rw [e3] at j1
    rw [hR, up2_na (hc.1 j j0 j1)]
    exact m.rn j j0 j1
  · intro j j0 j1
    rw [e4] at j1
    rw [hA]
    split
    · next e => rw [up2_na (by omega), e]; exact m0
    · rw [up2_na (hc.2.1 j j0 (by omega))]; exact m.dn j j0 (by omega)
  · rw [up2_rd, if_neg (by omega)]; exact m.q0
  · rw [up2_rd, if_neg (by omega)]; exact m.q1
  · intro j j0 j1
    have d1 : YA.K (A.1, fun j => if j = s 4 then a else A.D j, A.2.2) j = A.K j := rfl
    rw [d1, up2_na (hc.2.2.1 j j0 j1)]
    exact m.kk j j0 j1
  · intro j j0 j1
    have d1 : YA.P (A.1, fun j => if j = s 4 then a else A.D j, A.2.2) j = A.P j := rfl
    rw [d1, up2_na (hc.2.2.2.1 j j0 j1)]
    exact m.pp j j0 j1
  · intro j j0 j1 i i0 i1
    rw [e5] at j1
    rw [up2_na (hc.2.2.2.2 j j0 j1), ordS_ne (by omega)]
    exact ct j j0 j1 i i0 i1
