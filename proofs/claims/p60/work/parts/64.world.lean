/-! THE LAW'S WORLD: frames, the yard that is kept rod by rod -/
/-- from one state to another: what may have changed among the old cells, how many cells and slots were made -/
def Fr (F : Nat → Prop) (nc ns : Nat) (g : AG) (M : AM) (g' : AG) (M' : AM) : Prop := gN g ≤ gN g' ∧ gN g' ≤ gN g + nc ∧ gS g' ≤ gS g + ns ∧ ∀ c : Nat, c < 100 + gN g → (gK g' c = gK g c ∧ gL g' c = gL g c) ∧ (¬ F c → gR g' c = gR g c ∧ M' c = M c)
def FN : Nat → Prop := fun _ => False
def FC (O : Nat) : Nat → Prop := fun c => O ≤ c ∧ c < O + 348
/-- what a change of the yard leaves: all but its own cells -/
def FY (O : Nat) : Nat → Prop := fun c => ¬ (c ≤ 100 ∨ (102 ≤ c ∧ c ≤ 105) ∨ (O ≤ c ∧ c < O + 348))
section FR
variable {F F' : Nat → Prop} {nc ns nc' ns' O : Nat} {g g1 g2 : AG} {M M1 M2 : AM}
theorem Fr.rfl : Fr F 0 0 g M g M := ⟨Nat.le_refl _, Nat.le_refl _, Nat.le_refl _, fun _ _ => ⟨⟨Eq.refl _, Eq.refl _⟩, fun _ => ⟨Eq.refl _, Eq.refl _⟩⟩⟩
theorem Fr.trans (h : Fr F nc ns g M g1 M1) (h' : Fr F nc' ns' g1 M1 g2 M2) : Fr F (nc + nc') (ns + ns') g M g2 M2 := by
  obtain ⟨a1, a2, a3, a4⟩ := h
  obtain ⟨b1, b2, b3, b4⟩ := h'
  exact ⟨by omega, by omega, by omega, fun c hc => ⟨⟨(b4 c (by omega)).1.1.trans (a4 c hc).1.1, (b4 c (by omega)).1.2.trans (a4 c hc).1.2⟩, fun hF => ⟨((b4 c (by omega)).2 hF).1.trans ((a4 c hc).2 hF).1, ((b4 c (by omega)).2 hF).2.trans ((a4 c hc).2 hF).2⟩⟩⟩
theorem Fr.wide (h : Fr F nc ns g M g1 M1) (hF : ∀ c, F c → F' c) (h1 : nc ≤ nc') (h2 : ns ≤ ns') : Fr F' nc' ns' g M g1 M1 := by
  obtain ⟨a1, a2, a3, a4⟩ := h
  exact ⟨by omega, by omega, by omega, fun c hc => ⟨(a4 c hc).1, fun hn => (a4 c hc).2 (fun e => hn (hF c e))⟩⟩
theorem Fr.of0 (h : Fr FN nc ns g M g1 M1) : Fr F nc ns g M g1 M1 := h.wide (fun _ e => e.elim) (Nat.le_refl _) (Nat.le_refl _)
theorem Fr.w (h : Fr F nc ns g M g1 M1) (h1 : nc ≤ nc') (h2 : ns ≤ ns') : Fr F nc' ns' g M g1 M1 := h.wide (fun _ e => e) h1 h2
theorem Fr.n (h : Fr F nc ns g M g1 M1) : gN g ≤ gN g1 := h.1
theorem Fr.k (h : Fr F nc ns g M g1 M1) {c : Nat} (hc : c < 100 + gN g) : gK g1 c = gK g c := (h.2.2.2 c hc).1.1
theorem Fr.l (h : Fr F nc ns g M g1 M1) {c : Nat} (hc : c < 100 + gN g) : gL g1 c = gL g c := (h.2.2.2 c hc).1.2
theorem Fr.r (h : Fr F nc ns g M g1 M1) {c : Nat} (hc : c < 100 + gN g) (hF : ¬ F c) : gR g1 c = gR g c := ((h.2.2.2 c hc).2 hF).1
theorem Fr.m (h : Fr F nc ns g M g1 M1) {c : Nat} (hc : c < 100 + gN g) (hF : ¬ F c) : M1 c = M c := ((h.2.2.2 c hc).2 hF).2
theorem Fr.m0 (h : Fr FN nc ns g M g1 M1) {c : Nat} (hc : c < 100 + gN g) : M1 c = M c := h.m hc (fun e => e)
theorem Fr.r0 (h : Fr FN nc ns g M g1 M1) {c : Nat} (hc : c < 100 + gN g) : gR g1 c = gR g c := h.r hc (fun e => e)
theorem Fr.sg (h : Fr F nc ns g M g1 M1) {c : Nat} (hc : c < 100 + gN g) (hF : ¬ F c) : SG g g1 c := ⟨h.k hc, h.l hc, h.r hc hF⟩
theorem Fr.upm (h : Fr F nc ns g M g1 M1) {a : Nat} (ha : F a ∨ 100 + gN g ≤ a) {f : Int → Int} : Fr F nc ns g M g1 (upM M1 a f) := by
  obtain ⟨a1, a2, a3, a4⟩ := h
  refine ⟨a1, a2, a3, fun c hc => ⟨(a4 c hc).1, fun hn => ⟨((a4 c hc).2 hn).1, ?_⟩⟩⟩
  have hne : c ≠ a := fun e => by
    rcases ha with h | h
    · exact hn (e ▸ h)
    · omega
  rw [upM_na hne]
  exact ((a4 c hc).2 hn).2
theorem Fr.up (h : Fr F nc ns g M g1 M1) {a : Nat} (ha : F a ∨ 100 + gN g ≤ a) {x v : Int} : Fr F nc ns g M g1 (up2 M1 a x v) := h.upm ha
theorem Fr.upr (h : Fr F nc ns g M g1 M1) {a v : Nat} (ha : F a ∨ 100 + gN g ≤ a) {x : Int} : Fr F nc ns g M (gN g1, gS g1, gK g1, gL g1, up2R (gR g1) a x v) M1 := by
  obtain ⟨a1, a2, a3, a4⟩ := h
  refine ⟨a1, a2, a3, fun c hc => ⟨(a4 c hc).1, fun hn => ⟨?_, ((a4 c hc).2 hn).2⟩⟩⟩
  have hne : c ≠ a := fun e => by
    rcases ha with h | h
    · exact hn (e ▸ h)
    · omega
  show up2R (gR g1) a x v c = gR g c
  rw [up2R_na hne]
  exact ((a4 c hc).2 hn).1
theorem Fr.al (h : Fr F nc ns g M g1 M1) {kd ln sl : Nat} {M2 : AM} (hM : ∀ c, c < 100 + gN g1 → M2 c = M1 c) : Fr F (nc + 1) (ns + sl) g M (am_alloc g1 kd ln sl) M2 := by
  obtain ⟨a1, a2, a3, a4⟩ := h
  refine ⟨Nat.le_trans a1 (Nat.le_succ _), Nat.add_le_add_right a2 1, ?_, fun c hc => ?_⟩
  · show gS g1 + sl ≤ _
    omega
  have s1 := al_s (g := g1) (kd := kd) (ln := ln) (sl := sl) (c := c) (by omega)
  exact ⟨⟨s1.1.trans (a4 c hc).1.1, s1.2.1.trans (a4 c hc).1.2⟩, fun hn => ⟨s1.2.2.trans ((a4 c hc).2 hn).1, (hM c (by omega)).trans ((a4 c hc).2 hn).2⟩⟩
theorem Fr.x (h : Fr F nc ns g M g1 M1) : Fr F (nc + 1) (ns + 6) g M (am_alloc g1 30 0 6) M1 := h.al (fun _ _ => Eq.refl _)
theorem Fr.wr (h : Wr O 348 M M1) : Fr (FC O) 0 0 g M g M1 := ⟨Nat.le_refl _, Nat.le_refl _, Nat.le_refl _, fun c _ => ⟨⟨Eq.refl _, Eq.refl _⟩, fun hF => ⟨Eq.refl _, h c (by unfold FC at hF; omega)⟩⟩⟩
end FR
/-- the addresses of rods, orders, patterns, kinds, cuts -/
abbrev YA : Type := (Int → Nat) × (Int → Nat) × (Int → Nat) × (Int → Nat)
def YA.R (A : YA) : Int → Nat := A.1
def YA.D (A : YA) : Int → Nat := A.2.1
def YA.P (A : YA) : Int → Nat := A.2.2.1
def YA.K (A : YA) : Int → Nat := A.2.2.2
/-- a cell that is made, and no cell of the class -/
def Ou (g : AG) (O c : Nat) : Prop := 111 ≤ c ∧ c < 100 + gN g ∧ (c < O ∨ O + 348 ≤ c)
abbrev Yg (g : AG) (O : Nat) (A : YA) (q : Int → Int) (n3 n4 n5 : Int) : Prop := (11 ≤ gN g) ∧ (111 ≤ O) ∧ (gK g 101 = 17) ∧ (gK g 104 = 25) ∧ (gL g 104 = 4) ∧ (gK g 105 = 25) ∧ (gL g 105 = 6) ∧ (gK g 106 = 25) ∧ (gL g 106 = 60) ∧ (gK g 107 = 23) ∧ (gL g 107 = 90) ∧ (gK g 108 = 24) ∧ (gL g 108 = 16) ∧ (gK g 109 = 20) ∧ (gL g 109 = 201) ∧ (gK g 110 = 20) ∧ (gL g 110 = 8) ∧ (gR g 101 1 = 104) ∧ (gR g 101 2 = 105) ∧ (gR g 101 3 = 106) ∧ (gR g 101 4 = 107) ∧ (gR g 101 5 = 108) ∧ (gR g 101 6 = 109) ∧ (gR g 101 7 = 110) ∧ (∀ k : Int, 0 ≤ k → k < n3 → gR g 107 k = A.R k ∧ Ou g O (A.R k) ∧ gK g (A.R k) = 16) ∧ (∀ k j : Int, 0 ≤ k → k < n3 → 0 ≤ j → j < n3 → A.R k = A.R j → k = j) ∧ (∀ k : Int, 0 ≤ k → k < n4 → gR g 108 k = A.D k ∧ Ou g O (A.D k) ∧ gK g (A.D k) = 15) ∧ (∀ k j : Int, 0 ≤ k → k < n4 → 0 ≤ j → j < n4 → A.D k = A.D j → k = j) ∧ (∀ k : Int, 0 ≤ k → k < q 0 → gR g 104 k = A.K k ∧ Ou g O (A.K k) ∧ gK g (A.K k) = 20 ∧ gL g (A.K k) = 2) ∧ (∀ k : Int, 0 ≤ k → k < q 1 → gR g 105 k = A.P k ∧ Ou g O (A.P k) ∧ gK g (A.P k) = 20 ∧ (gL g (A.P k) : Int) = q (10 + k)) ∧ (∀ k : Int, 0 ≤ k → k < n5 → Ou g O (gR g 106 k) ∧ gK g (gR g 106 k) = 20 ∧ gL g (gR g 106 k) = 4)
theorem Yg.n {g : AG} {O : Nat} {A : YA} {q : Int → Int} {n3 n4 n5 : Int} (h : Yg g O A q n3 n4 n5) : 11 ≤ gN g := h.1
theorem Yg.o {g : AG} {O : Nat} {A : YA} {q : Int → Int} {n3 n4 n5 : Int} (h : Yg g O A q n3 n4 n5) : 111 ≤ O := h.2.1
theorem Yg.ky {g : AG} {O : Nat} {A : YA} {q : Int → Int} {n3 n4 n5 : Int} (h : Yg g O A q n3 n4 n5) : gK g 101 = 17 := h.2.2.1
theorem Yg.k4 {g : AG} {O : Nat} {A : YA} {q : Int → Int} {n3 n4 n5 : Int} (h : Yg g O A q n3 n4 n5) : gK g 104 = 25 := h.2.2.2.1
theorem Yg.l4 {g : AG} {O : Nat} {A : YA} {q : Int → Int} {n3 n4 n5 : Int} (h : Yg g O A q n3 n4 n5) : gL g 104 = 4 := h.2.2.2.2.1
theorem Yg.k5 {g : AG} {O : Nat} {A : YA} {q : Int → Int} {n3 n4 n5 : Int} (h : Yg g O A q n3 n4 n5) : gK g 105 = 25 := h.2.2.2.2.2.1
theorem Yg.l5 {g : AG} {O : Nat} {A : YA} {q : Int → Int} {n3 n4 n5 : Int} (h : Yg g O A q n3 n4 n5) : gL g 105 = 6 := h.2.2.2.2.2.2.1
theorem Yg.k6 {g : AG} {O : Nat} {A : YA} {q : Int → Int} {n3 n4 n5 : Int} (h : Yg g O A q n3 n4 n5) : gK g 106 = 25 := h.2.2.2.2.2.2.2.1
theorem Yg.l6 {g : AG} {O : Nat} {A : YA} {q : Int → Int} {n3 n4 n5 : Int} (h : Yg g O A q n3 n4 n5) : gL g 106 = 60 := h.2.2.2.2.2.2.2.2.1
theorem Yg.k7 {g : AG} {O : Nat} {A : YA} {q : Int → Int} {n3 n4 n5 : Int} (h : Yg g O A q n3 n4 n5) : gK g 107 = 23 := h.2.2.2.2.2.2.2.2.2.1
theorem Yg.l7 {g : AG} {O : Nat} {A : YA} {q : Int → Int} {n3 n4 n5 : Int} (h : Yg g O A q n3 n4 n5) : gL g 107 = 90 := h.2.2.2.2.2.2.2.2.2.2.1
theorem Yg.k8 {g : AG} {O : Nat} {A : YA} {q : Int → Int} {n3 n4 n5 : Int} (h : Yg g O A q n3 n4 n5) : gK g 108 = 24 := h.2.2.2.2.2.2.2.2.2.2.2.1
theorem Yg.l8 {g : AG} {O : Nat} {A : YA} {q : Int → Int} {n3 n4 n5 : Int} (h : Yg g O A q n3 n4 n5) : gL g 108 = 16 := h.2.2.2.2.2.2.2.2.2.2.2.2.1
theorem Yg.k9 {g : AG} {O : Nat} {A : YA} {q : Int → Int} {n3 n4 n5 : Int} (h : Yg g O A q n3 n4 n5) : gK g 109 = 20 := h.2.2.2.2.2.2.2.2.2.2.2.2.2.1
theorem Yg.l9 {g : AG} {O : Nat} {A : YA} {q : Int → Int} {n3 n4 n5 : Int} (h : Yg g O A q n3 n4 n5) : gL g 109 = 201 := h.2.2.2.2.2.2.2.2.2.2.2.2.2.2.1
theorem Yg.ka {g : AG} {O : Nat} {A : YA} {q : Int → Int} {n3 n4 n5 : Int} (h : Yg g O A q n3 n4 n5) : gK g 110 = 20 := h.2.2.2.2.2.2.2.2.2.2.2.2.2.2.2.1
theorem Yg.la {g : AG} {O : Nat} {A : YA} {q : Int → Int} {n3 n4 n5 : Int} (h : Yg g O A q n3 n4 n5) : gL g 110 = 8 := h.2.2.2.2.2.2.2.2.2.2.2.2.2.2.2.2.1
theorem Yg.r1 {g : AG} {O : Nat} {A : YA} {q : Int → Int} {n3 n4 n5 : Int} (h : Yg g O A q n3 n4 n5) : gR g 101 1 = 104 := h.2.2.2.2.2.2.2.2.2.2.2.2.2.2.2.2.2.1
theorem Yg.r2 {g : AG} {O : Nat} {A : YA} {q : Int → Int} {n3 n4 n5 : Int} (h : Yg g O A q n3 n4 n5) : gR g 101 2 = 105 := h.2.2.2.2.2.2.2.2.2.2.2.2.2.2.2.2.2.2.1
theorem Yg.r3 {g : AG} {O : Nat} {A : YA} {q : Int → Int} {n3 n4 n5 : Int} (h : Yg g O A q n3 n4 n5) : gR g 101 3 = 106 := h.2.2.2.2.2.2.2.2.2.2.2.2.2.2.2.2.2.2.2.1
theorem Yg.r4 {g : AG} {O : Nat} {A : YA} {q : Int → Int} {n3 n4 n5 : Int} (h : Yg g O A q n3 n4 n5) : gR g 101 4 = 107 := h.2.2.2.2.2.2.2.2.2.2.2.2.2.2.2.2.2.2.2.2.1
theorem Yg.r5 {g : AG} {O : Nat} {A : YA} {q : Int → Int} {n3 n4 n5 : Int} (h : Yg g O A q n3 n4 n5) : gR g 101 5 = 108 := h.2.2.2.2.2.2.2.2.2.2.2.2.2.2.2.2.2.2.2.2.2.1
theorem Yg.r6 {g : AG} {O : Nat} {A : YA} {q : Int → Int} {n3 n4 n5 : Int} (h : Yg g O A q n3 n4 n5) : gR g 101 6 = 109 := h.2.2.2.2.2.2.2.2.2.2.2.2.2.2.2.2.2.2.2.2.2.2.1
theorem Yg.r7 {g : AG} {O : Nat} {A : YA} {q : Int → Int} {n3 n4 n5 : Int} (h : Yg g O A q n3 n4 n5) : gR g 101 7 = 110 := h.2.2.2.2.2.2.2.2.2.2.2.2.2.2.2.2.2.2.2.2.2.2.2.1
theorem Yg.rr {g : AG} {O : Nat} {A : YA} {q : Int → Int} {n3 n4 n5 : Int} (h : Yg g O A q n3 n4 n5) : ∀ k : Int, 0 ≤ k → k < n3 → gR g 107 k = A.R k ∧ Ou g O (A.R k) ∧ gK g (A.R k) = 16 := h.2.2.2.2.2.2.2.2.2.2.2.2.2.2.2.2.2.2.2.2.2.2.2.2.1
theorem Yg.ri {g : AG} {O : Nat} {A : YA} {q : Int → Int} {n3 n4 n5 : Int} (h : Yg g O A q n3 n4 n5) : ∀ k j : Int, 0 ≤ k → k < n3 → 0 ≤ j → j < n3 → A.R k = A.R j → k = j := h.2.2.2.2.2.2.2.2.2.2.2.2.2.2.2.2.2.2.2.2.2.2.2.2.2.1
theorem Yg.dd {g : AG} {O : Nat} {A : YA} {q : Int → Int} {n3 n4 n5 : Int} (h : Yg g O A q n3 n4 n5) : ∀ k : Int, 0 ≤ k → k < n4 → gR g 108 k = A.D k ∧ Ou g O (A.D k) ∧ gK g (A.D k) = 15 := h.2.2.2.2.2.2.2.2.2.2.2.2.2.2.2.2.2.2.2.2.2.2.2.2.2.2.1
theorem Yg.di {g : AG} {O : Nat} {A : YA} {q : Int → Int} {n3 n4 n5 : Int} (h : Yg g O A q n3 n4 n5) : ∀ k j : Int, 0 ≤ k → k < n4 → 0 ≤ j → j < n4 → A.D k = A.D j → k = j := h.2.2.2.2.2.2.2.2.2.2.2.2.2.2.2.2.2.2.2.2.2.2.2.2.2.2.2.1
theorem Yg.kk {g : AG} {O : Nat} {A : YA} {q : Int → Int} {n3 n4 n5 : Int} (h : Yg g O A q n3 n4 n5) : ∀ k : Int, 0 ≤ k → k < q 0 → gR g 104 k = A.K k ∧ Ou g O (A.K k) ∧ gK g (A.K k) = 20 ∧ gL g (A.K k) = 2 := h.2.2.2.2.2.2.2.2.2.2.2.2.2.2.2.2.2.2.2.2.2.2.2.2.2.2.2.2.1
theorem Yg.pp {g : AG} {O : Nat} {A : YA} {q : Int → Int} {n3 n4 n5 : Int} (h : Yg g O A q n3 n4 n5) : ∀ k : Int, 0 ≤ k → k < q 1 → gR g 105 k = A.P k ∧ Ou g O (A.P k) ∧ gK g (A.P k) = 20 ∧ (gL g (A.P k) : Int) = q (10 + k) := h.2.2.2.2.2.2.2.2.2.2.2.2.2.2.2.2.2.2.2.2.2.2.2.2.2.2.2.2.2.1
theorem Yg.cc {g : AG} {O : Nat} {A : YA} {q : Int → Int} {n3 n4 n5 : Int} (h : Yg g O A q n3 n4 n5) : ∀ k : Int, 0 ≤ k → k < n5 → Ou g O (gR g 106 k) ∧ gK g (gR g 106 k) = 20 ∧ gL g (gR g 106 k) = 4 := h.2.2.2.2.2.2.2.2.2.2.2.2.2.2.2.2.2.2.2.2.2.2.2.2.2.2.2.2.2.2
def Cl (A : YA) (n3 n4 : Int) (c : Nat) (y z : Int) : Prop := (c = 101 ∧ ((y = 13 ∧ z = 0) ∨ (y = 14 ∧ z = 1) ∨ (y = 15 ∧ z = 2) ∨ (y = 10 ∧ z = 3) ∨ (y = 11 ∧ z = 4) ∨ (y = 12 ∧ z = 5))) ∨ (c = 110 ∧ 0 ≤ y ∧ y < 8 ∧ z = 6 + y) ∨ (c = 109 ∧ 0 ≤ y ∧ y ≤ 200 ∧ z = 542 + y) ∨ (∃ k : Int, 0 ≤ k ∧ k < n3 ∧ c = A.R k ∧ 1 ≤ y ∧ y ≤ 5 ∧ z = 80 * y - 66 + k) ∨ (∃ k : Int, 0 ≤ k ∧ k < n4 ∧ c = A.D k ∧ 1 ≤ y ∧ y ≤ 8 ∧ z = 413 + 8 * k + y)
abbrev Ym (M : AM) (A : YA) (s q : Int → Int) : Prop := (∀ (c : Nat) (y z : Int), Cl A (s 3) (s 4) c y z → M c y = s z) ∧ (∀ k : Int, 0 ≤ k → k < s 3 → M (A.R k) 0 = k) ∧ (∀ k : Int, 0 ≤ k → k < s 4 → M (A.D k) 0 = k) ∧ (M 101 8 = q 0) ∧ (M 101 9 = q 1) ∧ (∀ k : Int, 0 ≤ k → k < q 0 → M (A.K k) 0 = q (2 + k) ∧ M (A.K k) 1 = q (6 + k)) ∧ (∀ k : Int, 0 ≤ k → k < q 1 → ∀ i : Int, 0 ≤ i → i < q (10 + k) → M (A.P k) i = q (16 + ((6 * k) + i)))
theorem Ym.cl {M : AM} {A : YA} {s q : Int → Int} (h : Ym M A s q) : ∀ (c : Nat) (y z : Int), Cl A (s 3) (s 4) c y z → M c y = s z := h.1
theorem Ym.rn {M : AM} {A : YA} {s q : Int → Int} (h : Ym M A s q) : ∀ k : Int, 0 ≤ k → k < s 3 → M (A.R k) 0 = k := h.2.1
theorem Ym.dn {M : AM} {A : YA} {s q : Int → Int} (h : Ym M A s q) : ∀ k : Int, 0 ≤ k → k < s 4 → M (A.D k) 0 = k := h.2.2.1
theorem Ym.q0 {M : AM} {A : YA} {s q : Int → Int} (h : Ym M A s q) : M 101 8 = q 0 := h.2.2.2.1
theorem Ym.q1 {M : AM} {A : YA} {s q : Int → Int} (h : Ym M A s q) : M 101 9 = q 1 := h.2.2.2.2.1
theorem Ym.kk {M : AM} {A : YA} {s q : Int → Int} (h : Ym M A s q) : ∀ k : Int, 0 ≤ k → k < q 0 → M (A.K k) 0 = q (2 + k) ∧ M (A.K k) 1 = q (6 + k) := h.2.2.2.2.2.1
theorem Ym.pp {M : AM} {A : YA} {s q : Int → Int} (h : Ym M A s q) : ∀ k : Int, 0 ≤ k → k < q 1 → ∀ i : Int, 0 ≤ i → i < q (10 + k) → M (A.P k) i = q (16 + ((6 * k) + i)) := h.2.2.2.2.2.2
abbrev Yd (g : AG) (M : AM) (O : Nat) (A : YA) (s q : Int → Int) : Prop := (Yg g O A q (s 3) (s 4) (s 5)) ∧ (Ym M A s q) ∧ (∀ k : Int, 0 ≤ k → k < s 5 → ∀ i : Int, 0 ≤ i → i < 4 → M (gR g 106 k) i = s ((743 + (4 * k)) + i)) ∧ ((0 ≤ s 3 ∧ s 3 ≤ 80) ∧ (0 ≤ s 4 ∧ s 4 ≤ 16) ∧ (0 ≤ s 5 ∧ s 5 ≤ 60) ∧ (0 ≤ q 0 ∧ q 0 ≤ 4) ∧ (0 ≤ q 1 ∧ q 1 ≤ 6))
theorem Yd.gr {g : AG} {M : AM} {O : Nat} {A : YA} {s q : Int → Int} (h : Yd g M O A s q) : Yg g O A q (s 3) (s 4) (s 5) := h.1
theorem Yd.mr {g : AG} {M : AM} {O : Nat} {A : YA} {s q : Int → Int} (h : Yd g M O A s q) : Ym M A s q := h.2.1
theorem Yd.ct {g : AG} {M : AM} {O : Nat} {A : YA} {s q : Int → Int} (h : Yd g M O A s q) : ∀ k : Int, 0 ≤ k → k < s 5 → ∀ i : Int, 0 ≤ i → i < 4 → M (gR g 106 k) i = s ((743 + (4 * k)) + i) := h.2.2.1
theorem Yd.li {g : AG} {M : AM} {O : Nat} {A : YA} {s q : Int → Int} (h : Yd g M O A s q) : (0 ≤ s 3 ∧ s 3 ≤ 80) ∧ (0 ≤ s 4 ∧ s 4 ≤ 16) ∧ (0 ≤ s 5 ∧ s 5 ≤ 60) ∧ (0 ≤ q 0 ∧ q 0 ≤ 4) ∧ (0 ≤ q 1 ∧ q 1 ≤ 6) := h.2.2.2
theorem Ou.fr {g g1 : AG} {O c : Nat} (h : Ou g O c) (hn : gN g ≤ gN g1) : Ou g1 O c := ⟨h.1, by have := h.2.1; omega, h.2.2⟩
theorem Ou.nc {g : AG} {O c : Nat} (h : Ou g O c) : ¬ FC O c := fun e => by
  unfold FC at e
  have := h.2.2
  omega
/-- a yard where the old cells, all but the class's, are as they were -/
theorem Yd.fc {g g1 : AG} {M M1 : AM} {O nc ns : Nat} {A : YA} {s q : Int → Int} (h : Yd g M O A s q) (e : Fr (FC O) nc ns g M g1 M1) : Yd g1 M1 O A s q := by
  obtain ⟨G, m, ct, li⟩ := h
  have hn := G.n
  have ho := G.o
  have fx : ∀ c : Nat, c ≤ 110 → gK g1 c = gK g c ∧ gL g1 c = gL g c ∧ gR g1 c = gR g c ∧ M1 c = M c := fun c hc => by
    have hF : ¬ FC O c := fun e => by unfold FC at e; omega
    exact ⟨e.k (by omega), e.l (by omega), e.r (by omega) hF, e.m (by omega) hF⟩
  have fo : ∀ c : Nat, Ou g O c → gK g1 c = gK g c ∧ gL g1 c = gL g c ∧ gR g1 c = gR g c ∧ M1 c = M c := fun c hc => ⟨e.k hc.2.1, e.l hc.2.1, e.r hc.2.1 hc.nc, e.m hc.2.1 hc.nc⟩
  refine ⟨⟨Nat.le_trans hn e.n, ho, ?_, ?_, ?_, ?_, ?_, ?_, ?_, ?_, ?_, ?_, ?_, ?_, ?_, ?_, ?_, ?_, ?_, ?_, ?_, ?_, ?_, ?_, ?_, G.ri, ?_, G.di, ?_, ?_, ?_⟩, ⟨?_, ?_, ?_, ?_, ?_, ?_, ?_⟩, ?_, li⟩
  · rw [(fx 101 (by omega)).1]; exact G.ky
  · rw [(fx 104 (by omega)).1]; exact G.k4
  · rw [(fx 104 (by omega)).2.1]; exact G.l4
  · rw [(fx 105 (by omega)).1]; exact G.k5
  · rw [(fx 105 (by omega)).2.1]; exact G.l5
  · rw [(fx 106 (by omega)).1]; exact G.k6
  · rw [(fx 106 (by omega)).2.1]; exact G.l6
  · rw [(fx 107 (by omega)).1]; exact G.k7
  · rw [(fx 107 (by omega)).2.1]; exact G.l7
  · rw [(fx 108 (by omega)).1]; exact G.k8
  · rw [(fx 108 (by omega)).2.1]; exact G.l8
  · rw [(fx 109 (by omega)).1]; exact G.k9
  · rw [(fx 109 (by omega)).2.1]; exact G.l9
  · rw [(fx 110 (by omega)).1]; exact G.ka
  · rw [(fx 110 (by omega)).2.1]; exact G.la
  · rw [(fx 101 (by omega)).2.2.1]; exact G.r1
  · rw [(fx 101 (by omega)).2.2.1]; exact G.r2
  · rw [(fx 101 (by omega)).2.2.1]; exact G.r3
  · rw [(fx 101 (by omega)).2.2.1]; exact G.r4
  · rw [(fx 101 (by omega)).2.2.1]; exact G.r5
  · rw [(fx 101 (by omega)).2.2.1]; exact G.r6
  · rw [(fx 101 (by omega)).2.2.1]; exact G.r7
  · intro k k0 k1
    obtain ⟨a, b, c⟩ := G.rr k k0 k1
    rw [(fx 107 (by omega)).2.2.1, (fo _ b).1]
    exact ⟨a, b.fr e.n, c⟩
  · intro k k0 k1
    obtain ⟨a, b, c⟩ := G.dd k k0 k1
    rw [(fx 108 (by omega)).2.2.1, (fo _ b).1]
    exact ⟨a, b.fr e.n, c⟩
  · intro k k0 k1
    obtain ⟨a, b, c⟩ := G.kk k k0 k1
    rw [(fx 104 (by omega)).2.2.1, (fo _ b).1, (fo _ b).2.1]
    exact ⟨a, b.fr e.n, c⟩
  · intro k k0 k1
    obtain ⟨a, b, c⟩ := G.pp k k0 k1
    rw [(fx 105 (by omega)).2.2.1, (fo _ b).1, (fo _ b).2.1]
    exact ⟨a, b.fr e.n, c⟩
  · intro k k0 k1
    obtain ⟨b, c⟩ := G.cc k k0 k1
    rw [(fx 106 (by omega)).2.2.1, (fo _ b).1, (fo _ b).2.1]
    exact ⟨b.fr e.n, c⟩
  · intro c y z hc
    have hm := m.cl c y z hc
    rcases hc with h | h | h | ⟨k, k0, k1, rfl, _⟩ | ⟨k, k0, k1, rfl, _⟩
    · rw [(fx c (by omega)).2.2.2]; exact hm
    · rw [(fx c (by omega)).2.2.2]; exact hm
    · rw [(fx c (by omega)).2.2.2]; exact hm
    · rw [(fo _ (G.rr k k0 k1).2.1).2.2.2]; exact hm
    · rw [(fo _ (G.dd k k0 k1).2.1).2.2.2]; exact hm
  · intro k k0 k1
    rw [(fo _ (G.rr k k0 k1).2.1).2.2.2]; exact m.rn k k0 k1
  · intro k k0 k1
    rw [(fo _ (G.dd k k0 k1).2.1).2.2.2]; exact m.dn k k0 k1
  · rw [(fx 101 (by omega)).2.2.2]; exact m.q0
  · rw [(fx 101 (by omega)).2.2.2]; exact m.q1
  · intro k k0 k1
    rw [(fo _ (G.kk k k0 k1).2.1).2.2.2]; exact m.kk k k0 k1
  · intro k k0 k1
    rw [(fo _ (G.pp k k0 k1).2.1).2.2.2]; exact m.pp k k0 k1
  · intro k k0 k1
    rw [(fx 106 (by omega)).2.2.1, (fo _ (G.cc k k0 k1).1).2.2.2]; exact ct k k0 k1
theorem Yd.f0 {g g1 : AG} {M M1 : AM} {O nc ns : Nat} {A : YA} {s q : Int → Int} (h : Yd g M O A s q) (e : Fr FN nc ns g M g1 M1) : Yd g1 M1 O A s q := h.fc e.of0
theorem Yg.rd {g : AG} {O : Nat} {A : YA} {q : Int → Int} {n3 n4 n5 k j : Int} (G : Yg g O A q n3 n4 n5) (k0 : 0 ≤ k) (k1 : k < n3) (j0 : 0 ≤ j) (j1 : j < n4) : A.R k ≠ A.D j := fun e => by
  have h1 := (G.rr k k0 k1).2.2
  have h2 := (G.dd j j0 j1).2.2
  rw [e] at h1
  omega
theorem Cl.inj {g : AG} {O : Nat} {A : YA} {q : Int → Int} {n3 n4 n5 : Int} (G : Yg g O A q n3 n4 n5) (l3 : n3 ≤ 80) (l4 : n4 ≤ 16) {c c' : Nat} {y y' z z' : Int} (h : Cl A n3 n4 c y z) (h' : Cl A n3 n4 c' y' z') : (c = c' ∧ y = y') ↔ z = z' := by
  rcases h with h | h | h | ⟨k, k0, k1, hc, h⟩ | ⟨k, k0, k1, hc, h⟩ <;> rcases h' with h' | h' | h' | ⟨j, j0, j1, hc', h'⟩ | ⟨j, j0, j1, hc', h'⟩
  all_goals first
    | omega
    | (have := (G.rr j j0 j1).2.1.1; omega)
    | (have := (G.dd j j0 j1).2.1.1; omega)
    | (have := (G.rr k k0 k1).2.1.1; omega)
    | (have := (G.dd k k0 k1).2.1.1; omega)
    | skip
  · subst hc; subst hc'
    refine ⟨fun e => ?_, fun e => ?_⟩
    · have := G.ri k j k0 k1 j0 j1 e.1
      omega
    · have h1 : y = y' := by omega
      have h2 : k = j := by omega
      exact ⟨by rw [h2], h1⟩
  · subst hc; subst hc'
    have := G.rd k0 k1 j0 j1
    exact ⟨fun e => absurd e.1 this, fun e => by omega⟩
  · subst hc; subst hc'
    have := G.rd j0 j1 k0 k1
    exact ⟨fun e => absurd e.1.symm this, fun e => by omega⟩
  · subst hc; subst hc'
    refine ⟨fun e => ?_, fun e => ?_⟩
    · have := G.di k j k0 k1 j0 j1 e.1
      omega
    · have h2 : k = j := by omega
      exact ⟨by rw [h2], by omega⟩
/-- a number of the yard is written -/
theorem Yd.w {g : AG} {M : AM} {O : Nat} {A : YA} {s q : Int → Int} (h : Yd g M O A s q) {c : Nat} {y z v : Int} (hc : Cl A (s 3) (s 4) c y z) (hz : z ≠ 3 ∧ z ≠ 4 ∧ z ≠ 5) : Yd g (up2 M c y v) O A (upI s z v) q := by
  obtain ⟨G, m, ct, li⟩ := h
  obtain ⟨⟨l3, L3⟩, ⟨l4, L4⟩, ⟨l5, L5⟩, lq⟩ := li
  have e3 : upI s z v 3 = s 3 := upI_ne (by omega)
  have e4 : upI s z v 4 = s 4 := upI_ne (by omega)
  have e5 : upI s z v 5 = s 5 := upI_ne (by omega)
  have hz1 : z < 743 ∧ 0 ≤ z := by
    rcases hc with h | h | h | ⟨k, k0, k1, _, h⟩ | ⟨k, k0, k1, _, h⟩ <;> omega
  have h20 : ∀ a : Nat, 111 ≤ a → gK g a = 20 → a ≠ c := fun a a1 a2 e => by
    subst e
    rcases hc with h | h | h | ⟨k, k0, k1, h1, h⟩ | ⟨k, k0, k1, h1, h⟩
    · omega
    · omega
    · omega
    · have := (G.rr k k0 k1).2.2
      rw [← h1] at this
      omega
    · have := (G.dd k k0 k1).2.2
      rw [← h1] at this
      omega
  refine ⟨by rw [e3, e4, e5]; exact G, ⟨?_, ?_, ?_, ?_, ?_, ?_, ?_⟩, ?_, by rw [e3, e4, e5]; exact ⟨⟨l3, L3⟩, ⟨l4, L4⟩, ⟨l5, L5⟩, lq⟩⟩
  · intro c' y' z' hc'
    rw [e3, e4] at hc'
    exact rw2 (Cl.inj G L3 L4 hc' hc) (m.cl _ _ _ hc')
  · intro k k0 k1
    rw [e3] at k1
    rw [up2_rd, if_neg]
    · exact m.rn k k0 k1
    · rintro ⟨e1, e2⟩
      have b := (G.rr k k0 k1).2.1.1
      rcases hc with h | h | h | ⟨j, j0, j1, h1, h⟩ | ⟨j, j0, j1, h1, h⟩ <;> omega
  · intro k k0 k1
    rw [e4] at k1
    rw [up2_rd, if_neg]
    · exact m.dn k k0 k1
    · rintro ⟨e1, e2⟩
      have b := (G.dd k k0 k1).2.1.1
      rcases hc with h | h | h | ⟨j, j0, j1, h1, h⟩ | ⟨j, j0, j1, h1, h⟩ <;> omega
  · rw [up2_rd, if_neg]
    · exact m.q0
    · rintro ⟨e1, e2⟩
      rcases hc with h | h | h | ⟨j, j0, j1, h1, h⟩ | ⟨j, j0, j1, h1, h⟩
      · omega
      · omega
      · omega
      · have := (G.rr j j0 j1).2.1.1; omega
      · have := (G.dd j j0 j1).2.1.1; omega
  · rw [up2_rd, if_neg]
    · exact m.q1
    · rintro ⟨e1, e2⟩
      rcases hc with h | h | h | ⟨j, j0, j1, h1, h⟩ | ⟨j, j0, j1, h1, h⟩
      · omega
      · omega
      · omega
      · have := (G.rr j j0 j1).2.1.1; omega
      · have := (G.dd j j0 j1).2.1.1; omega
  · intro k k0 k1
    have b := G.kk k k0 k1
    rw [up2_na (h20 _ b.2.1.1 b.2.2.1)]
    exact m.kk k k0 k1
  · intro k k0 k1
    have b := G.pp k k0 k1
    rw [up2_na (h20 _ b.2.1.1 b.2.2.1)]
    exact m.pp k k0 k1
  · intro k k0 k1 i i0 i1
    rw [e5] at k1
    have b := G.cc k k0 k1
    rw [up2_na (h20 _ b.1.1 b.2.1), upI_ne (by omega)]
    exact ct k k0 k1 i i0 i1
section YD
variable {g : AG} {M : AM} {O : Nat} {A : YA} {s q : Int → Int} {k i v : Int}
theorem Yd.n0 (h : Yd g M O A s q) : M 101 13 = s 0 := h.mr.cl 101 13 0 (Or.inl ⟨rfl, by omega⟩)
theorem Yd.n1 (h : Yd g M O A s q) : M 101 14 = s 1 := h.mr.cl 101 14 1 (Or.inl ⟨rfl, by omega⟩)
theorem Yd.n2 (h : Yd g M O A s q) : M 101 15 = s 2 := h.mr.cl 101 15 2 (Or.inl ⟨rfl, by omega⟩)
theorem Yd.n3 (h : Yd g M O A s q) : M 101 10 = s 3 := h.mr.cl 101 10 3 (Or.inl ⟨rfl, by omega⟩)
theorem Yd.n4 (h : Yd g M O A s q) : M 101 11 = s 4 := h.mr.cl 101 11 4 (Or.inl ⟨rfl, by omega⟩)
theorem Yd.n5 (h : Yd g M O A s q) : M 101 12 = s 5 := h.mr.cl 101 12 5 (Or.inl ⟨rfl, by omega⟩)
theorem Yd.ac (h : Yd g M O A s q) (i0 : 0 ≤ i) (i1 : i < 8) : M 110 i = s (6 + i) := h.mr.cl 110 i (6 + i) (Or.inr (Or.inl ⟨rfl, i0, i1, rfl⟩))
theorem Yd.st (h : Yd g M O A s q) (i0 : 0 ≤ i) (i1 : i ≤ 200) : M 109 i = s (542 + i) := h.mr.cl 109 i (542 + i) (Or.inr (Or.inr (Or.inl ⟨rfl, i0, i1, rfl⟩)))
theorem Yd.r1 (h : Yd g M O A s q) (k0 : 0 ≤ k) (k1 : k < s 3) : M (A.R k) 1 = s (14 + k) := h.mr.cl _ _ _ (Or.inr (Or.inr (Or.inr (Or.inl ⟨k, k0, k1, rfl, by omega, by omega, by omega⟩))))
theorem Yd.r2 (h : Yd g M O A s q) (k0 : 0 ≤ k) (k1 : k < s 3) : M (A.R k) 2 = s (94 + k) := h.mr.cl _ _ _ (Or.inr (Or.inr (Or.inr (Or.inl ⟨k, k0, k1, rfl, by omega, by omega, by omega⟩))))
theorem Yd.r3 (h : Yd g M O A s q) (k0 : 0 ≤ k) (k1 : k < s 3) : M (A.R k) 3 = s (174 + k) := h.mr.cl _ _ _ (Or.inr (Or.inr (Or.inr (Or.inl ⟨k, k0, k1, rfl, by omega, by omega, by omega⟩))))
theorem Yd.r4 (h : Yd g M O A s q) (k0 : 0 ≤ k) (k1 : k < s 3) : M (A.R k) 4 = s (254 + k) := h.mr.cl _ _ _ (Or.inr (Or.inr (Or.inr (Or.inl ⟨k, k0, k1, rfl, by omega, by omega, by omega⟩))))
theorem Yd.r5 (h : Yd g M O A s q) (k0 : 0 ≤ k) (k1 : k < s 3) : M (A.R k) 5 = s (334 + k) := h.mr.cl _ _ _ (Or.inr (Or.inr (Or.inr (Or.inl ⟨k, k0, k1, rfl, by omega, by omega, by omega⟩))))
theorem Yd.d1 (h : Yd g M O A s q) (k0 : 0 ≤ k) (k1 : k < s 4) : M (A.D k) 1 = s (414 + (8 * k)) := h.mr.cl _ _ _ (Or.inr (Or.inr (Or.inr (Or.inr ⟨k, k0, k1, rfl, by omega, by omega, by omega⟩))))
theorem Yd.d2 (h : Yd g M O A s q) (k0 : 0 ≤ k) (k1 : k < s 4) : M (A.D k) 2 = s ((414 + (8 * k)) + 1) := h.mr.cl _ _ _ (Or.inr (Or.inr (Or.inr (Or.inr ⟨k, k0, k1, rfl, by omega, by omega, by omega⟩))))
theorem Yd.d3 (h : Yd g M O A s q) (k0 : 0 ≤ k) (k1 : k < s 4) : M (A.D k) 3 = s ((414 + (8 * k)) + 2) := h.mr.cl _ _ _ (Or.inr (Or.inr (Or.inr (Or.inr ⟨k, k0, k1, rfl, by omega, by omega, by omega⟩))))
theorem Yd.d4 (h : Yd g M O A s q) (k0 : 0 ≤ k) (k1 : k < s 4) : M (A.D k) 4 = s ((414 + (8 * k)) + 3) := h.mr.cl _ _ _ (Or.inr (Or.inr (Or.inr (Or.inr ⟨k, k0, k1, rfl, by omega, by omega, by omega⟩))))
theorem Yd.d5 (h : Yd g M O A s q) (k0 : 0 ≤ k) (k1 : k < s 4) : M (A.D k) 5 = s ((414 + (8 * k)) + 4) := h.mr.cl _ _ _ (Or.inr (Or.inr (Or.inr (Or.inr ⟨k, k0, k1, rfl, by omega, by omega, by omega⟩))))
theorem Yd.d6 (h : Yd g M O A s q) (k0 : 0 ≤ k) (k1 : k < s 4) : M (A.D k) 6 = s ((414 + (8 * k)) + 5) := h.mr.cl _ _ _ (Or.inr (Or.inr (Or.inr (Or.inr ⟨k, k0, k1, rfl, by omega, by omega, by omega⟩))))
theorem Yd.d7 (h : Yd g M O A s q) (k0 : 0 ≤ k) (k1 : k < s 4) : M (A.D k) 7 = s ((414 + (8 * k)) + 6) := h.mr.cl _ _ _ (Or.inr (Or.inr (Or.inr (Or.inr ⟨k, k0, k1, rfl, by omega, by omega, by omega⟩))))
theorem Yd.d8 (h : Yd g M O A s q) (k0 : 0 ≤ k) (k1 : k < s 4) : M (A.D k) 8 = s ((414 + (8 * k)) + 7) := h.mr.cl _ _ _ (Or.inr (Or.inr (Or.inr (Or.inr ⟨k, k0, k1, rfl, by omega, by omega, by omega⟩))))
theorem Yd.wr2 (h : Yd g M O A s q) (k0 : 0 ≤ k) (k1 : k < s 3) : Yd g (up2 M (A.R k) 2 v) O A (upI s (94 + k) v) q := h.w (Or.inr (Or.inr (Or.inr (Or.inl ⟨k, k0, k1, rfl, by omega, by omega, by omega⟩)))) (by omega)
theorem Yd.wr3 (h : Yd g M O A s q) (k0 : 0 ≤ k) (k1 : k < s 3) : Yd g (up2 M (A.R k) 3 v) O A (upI s (174 + k) v) q := h.w (Or.inr (Or.inr (Or.inr (Or.inl ⟨k, k0, k1, rfl, by omega, by omega, by omega⟩)))) (by omega)
theorem Yd.wr4 (h : Yd g M O A s q) (k0 : 0 ≤ k) (k1 : k < s 3) : Yd g (up2 M (A.R k) 4 v) O A (upI s (254 + k) v) q := h.w (Or.inr (Or.inr (Or.inr (Or.inl ⟨k, k0, k1, rfl, by omega, by omega, by omega⟩)))) (by omega)
theorem Yd.wr5 (h : Yd g M O A s q) (k0 : 0 ≤ k) (k1 : k < s 3) : Yd g (up2 M (A.R k) 5 v) O A (upI s (334 + k) v) q := h.w (Or.inr (Or.inr (Or.inr (Or.inl ⟨k, k0, k1, rfl, by omega, by omega, by omega⟩)))) (by omega)
theorem Yd.wd5 (h : Yd g M O A s q) (k0 : 0 ≤ k) (k1 : k < s 4) : Yd g (up2 M (A.D k) 5 v) O A (upI s ((414 + (8 * k)) + 4) v) q := h.w (Or.inr (Or.inr (Or.inr (Or.inr ⟨k, k0, k1, rfl, by omega, by omega, by omega⟩)))) (by omega)
theorem Yd.wd6 (h : Yd g M O A s q) (k0 : 0 ≤ k) (k1 : k < s 4) : Yd g (up2 M (A.D k) 6 v) O A (upI s ((414 + (8 * k)) + 5) v) q := h.w (Or.inr (Or.inr (Or.inr (Or.inr ⟨k, k0, k1, rfl, by omega, by omega, by omega⟩)))) (by omega)
theorem Yd.wd7 (h : Yd g M O A s q) (k0 : 0 ≤ k) (k1 : k < s 4) : Yd g (up2 M (A.D k) 7 v) O A (upI s ((414 + (8 * k)) + 6) v) q := h.w (Or.inr (Or.inr (Or.inr (Or.inr ⟨k, k0, k1, rfl, by omega, by omega, by omega⟩)))) (by omega)
theorem Yd.wd8 (h : Yd g M O A s q) (k0 : 0 ≤ k) (k1 : k < s 4) : Yd g (up2 M (A.D k) 8 v) O A (upI s ((414 + (8 * k)) + 7) v) q := h.w (Or.inr (Or.inr (Or.inr (Or.inr ⟨k, k0, k1, rfl, by omega, by omega, by omega⟩)))) (by omega)
theorem Yd.wy13 (h : Yd g M O A s q) : Yd g (up2 M 101 13 v) O A (upI s 0 v) q := h.w (Or.inl ⟨rfl, by omega⟩) (by omega)
theorem Yd.wy14 (h : Yd g M O A s q) : Yd g (up2 M 101 14 v) O A (upI s 1 v) q := h.w (Or.inl ⟨rfl, by omega⟩) (by omega)
theorem Yd.wy15 (h : Yd g M O A s q) : Yd g (up2 M 101 15 v) O A (upI s 2 v) q := h.w (Or.inl ⟨rfl, by omega⟩) (by omega)
theorem Yd.wa (h : Yd g M O A s q) (i0 : 0 ≤ i) (i1 : i < 8) : Yd g (up2 M 110 i v) O A (upI s (6 + i) v) q := h.w (Or.inr (Or.inl ⟨rfl, i0, i1, rfl⟩)) (by omega)
theorem Yd.ws (h : Yd g M O A s q) (i0 : 0 ≤ i) (i1 : i ≤ 200) : Yd g (up2 M 109 i v) O A (upI s (542 + i) v) q := h.w (Or.inr (Or.inr (Or.inl ⟨rfl, i0, i1, rfl⟩))) (by omega)
theorem Yd.acz {z : Int} (h : Yd g M O A s q) (i0 : 0 ≤ i) (i1 : i < 8) (e : 6 + i = z) : M 110 i = s z := by rw [← e]; exact h.ac i0 i1
theorem Yd.waz {z : Int} (h : Yd g M O A s q) (i0 : 0 ≤ i) (i1 : i < 8) (e : 6 + i = z) : Yd g (up2 M 110 i v) O A (upI s z v) q := by rw [← e]; exact h.wa i0 i1
theorem Yd.ext {t : Int → Int} (h : Yd g M O A s q) (e : ∀ j : Int, s j = t j) : Yd g M O A t q := by rw [← show s = t from funext e]; exact h
end YD
theorem frw {F : Nat → Prop} {nc ns O c : Nat} {g0 g : AG} {M0 M : AM} {A : YA} {s q : Int → Int} {x v : Int} (e : Fr F nc ns g0 M0 g M) (hF : F c) (_ : Yd g (up2 M c x v) O A s q) : Fr F nc ns g0 M0 g (up2 M c x v) := e.up (Or.inl hF)
theorem fy_101 {O : Nat} (h : 111 ≤ O) : FY O 101 := fun e => by omega
theorem fy_109 {O : Nat} (h : 111 ≤ O) : FY O 109 := fun e => by omega
theorem fy_110 {O : Nat} (h : 111 ≤ O) : FY O 110 := fun e => by omega
theorem fy_6 {O c : Nat} (h : 111 ≤ O) (hc : c = 106 ∨ c = 107 ∨ c = 108) : FY O c := fun e => by omega
theorem upI_comm {s : Int → Int} {a b v w : Int} (h : a ≠ b) : upI (upI s a v) b w = upI (upI s b w) a v := by
  funext j
  unfold upI
  by_cases h1 : j = a
  · by_cases h2 : j = b
    · omega
    · rw [if_neg h2, if_pos h1, if_pos h1]
  · by_cases h2 : j = b
    · rw [if_pos h2, if_neg h1, if_pos h2]
    · rw [if_neg h2, if_neg h1, if_neg h1, if_neg h2]
theorem Yd.keep5 {g : AG} {M : AM} {O : Nat} {A : YA} {s q : Int → Int} {v : Int} (h : Yd g M O A s q) (e : v = s 5) : Yd g (up2 M 101 12 v) O A s q := by rw [up2_self (by rw [e]; exact Yd.n5 h)]; exact h
/-- what leaves the class and the fixed cells -/
theorem Ou.fy {g : AG} {O c : Nat} (h : Ou g O c) : FY O c := fun e => by
  have h1 := h.1
  have h2 := h.2.2
  omega
/-- an array of ints that a local holds -/
def IA (g : AG) (M : AM) (a : Nat) (n : Int) (f : Int → Int) : Prop := gK g a = 20 ∧ (gL g a : Int) = n ∧ ∀ i : Int, 0 ≤ i → i < n → M a i = f i
theorem IA.fr {F : Nat → Prop} {g g1 : AG} {M M1 : AM} {a nc ns : Nat} {n : Int} {f : Int → Int} (h : IA g M a n f) (e : Fr F nc ns g M g1 M1) (ha : a < 100 + gN g) (hF : ¬ F a) : IA g1 M1 a n f := ⟨(e.k ha).trans h.1, by rw [e.l ha]; exact h.2.1, fun i i0 i1 => by rw [e.m ha hF]; exact h.2.2 i i0 i1⟩
theorem IA.up {g : AG} {M : AM} {a : Nat} {n x v : Int} {f : Int → Int} (h : IA g M a n f) : IA g (up2 M a x v) a n (upI f x v) := ⟨h.1, h.2.1, fun i i0 i1 => rw2 (by omega) (h.2.2 i i0 i1)⟩
theorem Yd.ia {g : AG} {M : AM} {O : Nat} {A : YA} {s q : Int → Int} {p : Int} (h : Yd g M O A s q) (p0 : 0 ≤ p) (p1 : p < q 1) : IA g M (A.P p) (q (10 + p)) (fun i => q (16 + ((6 * p) + i))) := ⟨(h.gr.pp p p0 p1).2.2.1, (h.gr.pp p p0 p1).2.2.2, fun i i0 i1 => h.mr.pp p p0 p1 i i0 i1⟩
/-- a loop: whatever the state at its head, a step goes down or leaves -/
theorem ok_lp {σ : Type} {d mi h : Nat} {Q : AO → AG → AM → Prop} (L : σ → List AV → AG → AM → Prop) (μ : σ → Nat) (step : ∀ (a : σ) (ls : List AV) (g : AG) (M : AM), L a ls g M → (∀ (a1 : σ) (ls1 : List AV) (g1 : AG) (M1 : AM), μ a1 < μ a → L a1 ls1 g1 M1 → Ok d mi h ls1 [] g1 M1 Q) → Ok d mi h ls [] g M Q) (a : σ) (ls : List AV) (g : AG) (M : AM) (h0 : L a ls g M) : Ok d mi h ls [] g M Q := by
  suffices hs : ∀ (n : Nat) (a : σ) (ls : List AV) (g : AG) (M : AM), μ a < n → L a ls g M → Ok d mi h ls [] g M Q from hs (μ a + 1) a ls g M (Nat.lt_succ_self _) h0
  intro n
  induction n with
  | zero => intro a ls g M hn; omega
  | succ n ih => exact fun a ls g M hn hL => step a ls g M hL (fun a1 ls1 g1 M1 hm hL1 => ih a1 ls1 g1 M1 (by omega) hL1)
/-- the first that serves, by the least key -/
def Fst (P : Int → Prop) (key : Int → Int) (lo n acc : Int) : Prop := (acc = -1 ∧ ∀ i : Int, lo ≤ i → i < n → ¬ P i) ∨ ((lo ≤ acc ∧ acc < n) ∧ P acc ∧ ∀ i : Int, lo ≤ i → i < n → P i → key acc < key i ∨ (key acc = key i ∧ acc ≤ i))
section FST
variable {P : Int → Prop} {key : Int → Int} {lo n a b : Int}
theorem Fst.nil (h : n ≤ lo) : Fst P key lo n (-1) := Or.inl ⟨rfl, fun i i0 i1 => by omega⟩
theorem Fst.uniq (h0 : 0 ≤ lo) (h : Fst P key lo n a) (h' : Fst P key lo n b) : a = b := by
  rcases h with ⟨ha, hn⟩ | ⟨⟨a0, a1⟩, ha, hm⟩ <;> rcases h' with ⟨hb, hn'⟩ | ⟨⟨b0, b1⟩, hb, hm'⟩
  · omega
  · exact absurd hb (hn b b0 b1)
  · exact absurd ha (hn' a a0 a1)
  · have h1 := hm b b0 b1 hb
    have h2 := hm' a a0 a1 ha
    omega
theorem Fst.congr {P' : Int → Prop} {key' : Int → Int} (h : Fst P key lo n a) (hP : ∀ i : Int, lo ≤ i → i < n → (P i ↔ P' i)) (hk : ∀ i j : Int, lo ≤ i → i < n → lo ≤ j → j < n → P i → P j → key i ≤ key j → key' i ≤ key' j) (hk' : ∀ i j : Int, lo ≤ i → i < n → lo ≤ j → j < n → P i → P j → key' i ≤ key' j → key i ≤ key j) : Fst P' key' lo n a := by
  rcases h with ⟨ha, hn⟩ | ⟨⟨a0, a1⟩, ha, hm⟩
  · exact Or.inl ⟨ha, fun i i0 i1 hp => hn i i0 i1 ((hP i i0 i1).2 hp)⟩
  · refine Or.inr ⟨⟨a0, a1⟩, (hP a a0 a1).1 ha, fun i i0 i1 hp => ?_⟩
    have hp' := (hP i i0 i1).2 hp
    have h1 := hm i i0 i1 hp'
    have h2 := hk a i a0 a1 i0 i1 ha hp'
    have h3 := hk' i a i0 i1 a0 a1 hp' ha
    omega
/-- upwards: one that serves not -/
theorem Fst.skip (h : Fst P key lo n a) (hp : ¬ P n) : Fst P key lo (n + 1) a := by
  rcases h with ⟨ha, hn⟩ | ⟨⟨a0, a1⟩, ha, hm⟩
  · refine Or.inl ⟨ha, fun i i0 i1 => ?_⟩
    rcases (show i < n ∨ i = n by omega) with h | h
    · exact hn i i0 h
    · rw [h]; exact hp
  · refine Or.inr ⟨⟨a0, by omega⟩, ha, fun i i0 i1 hi => ?_⟩
    rcases (show i < n ∨ i = n by omega) with h | h
    · exact hm i i0 h hi
    · rw [h] at hi; exact absurd hi hp
theorem Fst.keep (h : Fst P key lo n a) (ha : a ≠ -1) (hk : key a ≤ key n) : Fst P key lo (n + 1) a := by
  rcases h with ⟨h1, hn⟩ | ⟨⟨a0, a1⟩, ha, hm⟩
  · exact absurd h1 ha
  · refine Or.inr ⟨⟨a0, by omega⟩, ha, fun i i0 i1 hi => ?_⟩
    rcases (show i < n ∨ i = n by omega) with h | h
    · exact hm i i0 h hi
    · rw [h]; omega
theorem Fst.take (h : Fst P key lo n a) (hz : 0 ≤ lo) (hl : lo ≤ n) (hp : P n) (hk : a = -1 ∨ key n < key a) : Fst P key lo (n + 1) n := by
  refine Or.inr ⟨⟨hl, by omega⟩, hp, fun i i0 i1 hi => ?_⟩
  rcases (show i < n ∨ i = n by omega) with hh | hh
  · rcases h with ⟨h1, hn⟩ | ⟨⟨a0, a1⟩, ha, hm⟩
    · exact absurd hi (hn i i0 hh)
    · have := hm i i0 hh hi
      omega
  · rw [hh]; omega
/-- downwards -/
theorem Fst.dskip (h : Fst P key (lo + 1) n a) (hp : ¬ P lo) : Fst P key lo n a := by
  rcases h with ⟨ha, hn⟩ | ⟨⟨a0, a1⟩, ha, hm⟩
  · refine Or.inl ⟨ha, fun i i0 i1 => ?_⟩
    rcases (show lo + 1 ≤ i ∨ i = lo by omega) with h | h
    · exact hn i h i1
    · rw [h]; exact hp
  · refine Or.inr ⟨⟨by omega, a1⟩, ha, fun i i0 i1 hi => ?_⟩
    rcases (show lo + 1 ≤ i ∨ i = lo by omega) with h | h
    · exact hm i h i1 hi
    · rw [h] at hi; exact absurd hi hp
theorem Fst.dkeep (h : Fst P key (lo + 1) n a) (ha : a ≠ -1) (hk : key a < key lo) : Fst P key lo n a := by
  rcases h with ⟨h1, hn⟩ | ⟨⟨a0, a1⟩, ha, hm⟩
  · exact absurd h1 ha
  · refine Or.inr ⟨⟨by omega, a1⟩, ha, fun i i0 i1 hi => ?_⟩
    rcases (show lo + 1 ≤ i ∨ i = lo by omega) with h | h
    · exact hm i h i1 hi
    · rw [h]; omega
theorem Fst.dtake (h : Fst P key (lo + 1) n a) (hz : 0 ≤ lo) (hl : lo < n) (hp : P lo) (hk : a = -1 ∨ key lo ≤ key a) : Fst P key lo n lo := by
  refine Or.inr ⟨⟨by omega, hl⟩, hp, fun i i0 i1 hi => ?_⟩
  rcases (show lo + 1 ≤ i ∨ i = lo by omega) with hh | hh
  · rcases h with ⟨h1, hn⟩ | ⟨⟨a0, a1⟩, ha, hm⟩
    · exact absurd hi (hn i hh i1)
    · have := hm i hh i1 hi
      omega
  · rw [hh]; omega
theorem Fst.rg (h : Fst P key lo n a) (h0 : 0 ≤ lo) : -1 ≤ a ∧ (a = -1 ∨ (lo ≤ a ∧ a < n)) ∧ (a < n ∨ a = -1) := by
  rcases h with ⟨h1, _⟩ | ⟨h1, _⟩ <;> omega
end FST
def nulR (R : Int → Nat) (b : Int) : Nat := if b = -1 then 0 else R b
theorem nulR_0 {R : Int → Nat} : nulR R (-1) = 0 := if_pos rfl
theorem nulR_1 {R : Int → Nat} {b : Int} (h : b ≠ -1) : nulR R b = R b := if_neg h
