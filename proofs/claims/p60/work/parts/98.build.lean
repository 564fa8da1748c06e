/-! THE YARD WHILE IT IS BUILT -/
theorem Yd.fk {F : Nat → Prop} {g g1 : AG} {M M1 : AM} {O nc ns : Nat} {A : YA} {s q : Int → Int} (h : Yd g M O A s q) (e : Fr F nc ns g M g1 M1) (hF : ∀ c : Nat, (c = 101 ∨ (104 ≤ c ∧ c ≤ 110)) → ¬ F c) (hO : ∀ c : Nat, 111 ≤ c → c < 100 + gN g → gK g c ≠ 21 → ¬ F c) : Yd g1 M1 O A s q := by
  obtain ⟨G, m, ct, li⟩ := h
  have hn := G.n
  have ho := G.o
  have fx : ∀ c : Nat, (c = 101 ∨ (104 ≤ c ∧ c ≤ 110)) → gK g1 c = gK g c ∧ gL g1 c = gL g c ∧ gR g1 c = gR g c ∧ M1 c = M c := fun c hc => ⟨e.k (by omega), e.l (by omega), e.r (by omega) (hF c hc), e.m (by omega) (hF c hc)⟩
  have fo : ∀ c : Nat, Ou g O c → gK g c ≠ 21 → gK g1 c = gK g c ∧ gL g1 c = gL g c ∧ gR g1 c = gR g c ∧ M1 c = M c := fun c hc hk => ⟨e.k hc.2.1, e.l hc.2.1, e.r hc.2.1 (hO c hc.1 hc.2.1 hk), e.m hc.2.1 (hO c hc.1 hc.2.1 hk)⟩
  refine ⟨⟨Nat.le_trans hn e.n, ho, ?_, ?_, ?_, ?_, ?_, ?_, ?_, ?_, ?_, ?_, ?_, ?_, ?_, ?_, ?_, ?_, ?_, ?_, ?_, ?_, ?_, ?_, ?_, G.ri, ?_, G.di, ?_, ?_, ?_⟩, ⟨?_, ?_, ?_, ?_, ?_, ?_, ?_⟩, ?_, li⟩
  · rw [(fx 101 (by omega)).1]; exact G.ky
  · rw [(fx 104 (by omega)).1]; exact G.k4
  · rw [(fx 104 (by omega)).2.1]; exact G.l4
  · rw [(fx 105 (by omega)).1]; exact G.k5
  · rw [(fx 105 (by omega)).2.1]; exact G.l5
  · rw [(fx 106 (by omega)).1]; exact G.k6
  · rw [(fx 106 (by omega)).2.1]; exact G.l6
  · rw [(fx 107 (by omega)).1]; exact G.k7
  · rw [(fx 107 (by omega)).2.1]; exact G.l7
  · rw [(fx 108 (by omega)).1]; exact G.k8
  · rw [(fx 108 (by omega)).2.1]; exact G.l8
  · rw [(fx 109 (by omega)).1]; exact G.k9
  · rw [(fx 109 (by omega)).2.1]; exact G.l9
  · rw [(fx 110 (by omega)).1]; exact G.ka
  · rw [(fx 110 (by omega)).2.1]; exact G.la
  · rw [(fx 101 (by omega)).2.2.1]; exact G.r1
  · rw [(fx 101 (by omega)).2.2.1]; exact G.r2
  · rw [(fx 101 (by omega)).2.2.1]; exact G.r3
  · rw [(fx 101 (by omega)).2.2.1]; exact G.r4
  · rw [(fx 101 (by omega)).2.2.1]; exact G.r5
  · rw [(fx 101 (by omega)).2.2.1]; exact G.r6
  · rw [(fx 101 (by omega)).2.2.1]; exact G.r7
  · intro k k0 k1
    obtain ⟨a, b, c⟩ := G.rr k k0 k1
    rw [(fx 107 (by omega)).2.2.1, (fo _ b (by rw [c]; decide)).1]
    exact ⟨a, b.fr e.n, c⟩
  · intro k k0 k1
    obtain ⟨a, b, c⟩ := G.dd k k0 k1
    rw [(fx 108 (by omega)).2.2.1, (fo _ b (by rw [c]; decide)).1]
    exact ⟨a, b.fr e.n, c⟩
  · intro k k0 k1
    obtain ⟨a, b, c⟩ := G.kk k k0 k1
    rw [(fx 104 (by omega)).2.2.1, (fo _ b (by rw [c.1]; decide)).1, (fo _ b (by rw [c.1]; decide)).2.1]
    exact ⟨a, b.fr e.n, c⟩
  · intro k k0 k1
    obtain ⟨a, b, c⟩ := G.pp k k0 k1
    rw [(fx 105 (by omega)).2.2.1, (fo _ b (by rw [c.1]; decide)).1, (fo _ b (by rw [c.1]; decide)).2.1]
    exact ⟨a, b.fr e.n, c⟩
  · intro k k0 k1
    obtain ⟨b, c⟩ := G.cc k k0 k1
    rw [(fx 106 (by omega)).2.2.1, (fo _ b (by rw [c.1]; decide)).1, (fo _ b (by rw [c.1]; decide)).2.1]
    exact ⟨b.fr e.n, c⟩
  · intro c y z hc
    have hm := m.cl c y z hc
    rcases hc with h | h | h | ⟨k, k0, k1, rfl, _⟩ | ⟨k, k0, k1, rfl, _⟩
    · rw [(fx c (by omega)).2.2.2]; exact hm
    · rw [(fx c (by omega)).2.2.2]; exact hm
    · rw [(fx c (by omega)).2.2.2]; exact hm
    · rw [(fo _ (G.rr k k0 k1).2.1 (by rw [(G.rr k k0 k1).2.2]; decide)).2.2.2]; exact hm
    · rw [(fo _ (G.dd k k0 k1).2.1 (by rw [(G.dd k k0 k1).2.2]; decide)).2.2.2]; exact hm
  · intro k k0 k1
    rw [(fo _ (G.rr k k0 k1).2.1 (by rw [(G.rr k k0 k1).2.2]; decide)).2.2.2]; exact m.rn k k0 k1
  · intro k k0 k1
    rw [(fo _ (G.dd k k0 k1).2.1 (by rw [(G.dd k k0 k1).2.2]; decide)).2.2.2]; exact m.dn k k0 k1
  · rw [(fx 101 (by omega)).2.2.2]; exact m.q0
  · rw [(fx 101 (by omega)).2.2.2]; exact m.q1
  · intro k k0 k1
    rw [(fo _ (G.kk k k0 k1).2.1 (by rw [(G.kk k k0 k1).2.2.1]; decide)).2.2.2]; exact m.kk k k0 k1
  · intro k k0 k1
    rw [(fo _ (G.pp k k0 k1).2.1 (by rw [(G.pp k k0 k1).2.2.1]; decide)).2.2.2]; exact m.pp k k0 k1
  · intro k k0 k1
    rw [(fx 106 (by omega)).2.2.1, (fo _ (G.cc k k0 k1).1 (by rw [(G.cc k k0 k1).2.1]; decide)).2.2.2]; exact ct k k0 k1
/-- the yard's place of the object may be chosen anew -/
theorem Yd.re {g : AG} {M : AM} {O O' : Nat} {A : YA} {s q : Int → Int} (h : Yd g M O A s q) (hO : 100 + gN g = O') : Yd g M O' A s q := by
  obtain ⟨G, m, ct, li⟩ := h
  have hn := G.n
  have u : ∀ c : Nat, Ou g O c → Ou g O' c := fun c hc => ⟨hc.1, hc.2.1, Or.inl (by have := hc.2.1; omega)⟩
  exact ⟨⟨G.n, by omega, G.ky, G.k4, G.l4, G.k5, G.l5, G.k6, G.l6, G.k7, G.l7, G.k8, G.l8, G.k9, G.l9, G.ka, G.la, G.r1, G.r2, G.r3, G.r4, G.r5, G.r6, G.r7, fun k k0 k1 => ⟨(G.rr k k0 k1).1, u _ (G.rr k k0 k1).2.1, (G.rr k k0 k1).2.2⟩, G.ri, fun k k0 k1 => ⟨(G.dd k k0 k1).1, u _ (G.dd k k0 k1).2.1, (G.dd k k0 k1).2.2⟩, G.di, fun k k0 k1 => ⟨(G.kk k k0 k1).1, u _ (G.kk k k0 k1).2.1, (G.kk k k0 k1).2.2⟩, fun k k0 k1 => ⟨(G.pp k k0 k1).1, u _ (G.pp k k0 k1).2.1, (G.pp k k0 k1).2.2⟩, fun k k0 k1 => ⟨u _ (G.cc k k0 k1).1, (G.cc k k0 k1).2⟩⟩, m, ct, li⟩
theorem entK_f {q : Int → Int} {L P : Int} (hq : 0 ≤ q 0 ∧ q 0 < 4) : entK q L P 0 = q 0 + 1 ∧ entK q L P 1 = q 1 ∧ (∀ k : Int, 0 ≤ k → k < q 0 → entK q L P (2 + k) = q (2 + k) ∧ entK q L P (6 + k) = q (6 + k)) ∧ entK q L P (2 + q 0) = L ∧ entK q L P (6 + q 0) = P ∧ ∀ j : Int, 10 ≤ j → entK q L P j = q j := by
  refine ⟨upI_eq, ?_, fun k k0 k1 => ⟨?_, ?_⟩, ?_, ?_, fun j hj => ?_⟩
  · unfold entK; rw [upI_ne (by omega), upI_ne (by omega), upI_ne (by omega)]
  · unfold entK; rw [upI_ne (by omega), upI_ne (by omega), upI_ne (by omega)]
  · unfold entK; rw [upI_ne (by omega), upI_ne (by omega), upI_ne (by omega)]
  · unfold entK; rw [upI_ne (by omega), upI_ne (by omega), upI_eq]
  · unfold entK; rw [upI_ne (by omega), upI_eq]
  · unfold entK; rw [upI_ne (by omega), upI_ne (by omega), upI_ne (by omega)]
/-- a kind more -/
theorem Yd.addK {g : AG} {M : AM} {O a : Nat} {A : YA} {s q : Int → Int} {L P : Int} (h : Yd g M O A s q) (hq : q 0 < 4) (ha : gR g 104 (q 0) = a) (ho : Ou g O a) (hk : gK g a = 20 ∧ gL g a = 2) (m0 : M a 0 = L) (m1 : M a 1 = P) : Yd g (up2 M 101 8 (q 0 + 1)) O (A.1, A.2.1, A.2.2.1, fun j => if j = q 0 then a else A.K j) s (entK q L P) := by
  have hc := h.c20 (c := 101) (by omega)
  obtain ⟨G, m, ct, ⟨l3, l4, l5, l6, l7⟩⟩ := h
  obtain ⟨f0, f1, f2, f3, f4, f5⟩ := entK_f (L := L) (P := P) ⟨l6.1, hq⟩
  have hA : ∀ j : Int, YA.K (A.1, A.2.1, A.2.2.1, fun j => if j = q 0 then a else A.K j) j = if j = q 0 then a else A.K j := fun _ => rfl
  have hao := ho.1
  refine ⟨⟨G.n, G.o, G.ky, G.k4, G.l4, G.k5, G.l5, G.k6, G.l6, G.k7, G.l7, G.k8, G.l8, G.k9, G.l9, G.ka, G.la, G.r1, G.r2, G.r3, G.r4, G.r5, G.r6, G.r7, G.rr, G.ri, G.dd, G.di, fun k k0 k1 => ?_, fun k k0 k1 => ?_, G.cc⟩, ⟨?_, ?_, ?_, ?_, ?_, ?_, ?_⟩, fun k k0 k1 i i0 i1 => ?_, ⟨l3, l4, l5, by rw [f0]; omega, by rw [f1]; exact l7⟩⟩
  · rw [hA]
    by_cases e : k = q 0
    · rw [if_pos e, e]; exact ⟨ha, ho, hk⟩
    · rw [if_neg e]; exact G.kk k k0 (by rw [f0] at k1; omega)
  · rw [f1] at k1
    rw [f5 (10 + k) (by omega)]
    exact G.pp k k0 k1
  · intro c y z hcl
    have hm := m.cl c y z hcl
    rcases hcl with h1 | h1 | h1 | ⟨k, k0, k1, rfl, _⟩ | ⟨k, k0, k1, rfl, _⟩
    · rw [h1.1] at hm ⊢; exact rd_ni (by omega) hm
    · exact rd_na (by omega) hm
    · exact rd_na (by omega) hm
    · exact rd_na (hc.1 k k0 k1) hm
    · exact rd_na (hc.2.1 k k0 k1) hm
  · exact fun k k0 k1 => rd_na (hc.1 k k0 k1) (m.rn k k0 k1)
  · exact fun k k0 k1 => rd_na (hc.2.1 k k0 k1) (m.dn k k0 k1)
  · rw [f0]; exact rd_eq
  · rw [f1]; exact rd_ni (by omega) m.q1
  · intro k k0 k1
    rw [hA]
    by_cases e : k = q 0
    · rw [if_pos e, e, f3, f4]; exact ⟨rd_na (by omega) m0, rd_na (by omega) m1⟩
    · rw [f0] at k1
      rw [if_neg e, (f2 k k0 (by omega)).1, (f2 k k0 (by omega)).2]
      exact ⟨rd_na (hc.2.2.1 k k0 (by omega)) (m.kk k k0 (by omega)).1, rd_na (hc.2.2.1 k k0 (by omega)) (m.kk k k0 (by omega)).2⟩
  · intro k k0 k1 i i0 i1
    rw [f1] at k1
    rw [f5 (10 + k) (by omega)] at i1
    rw [f5 _ (by omega)]
    exact rd_na (hc.2.2.2.1 k k0 k1) (m.pp k k0 k1 i i0 i1)
  · exact rd_na (hc.2.2.2.2 k k0 k1) (ct k k0 k1 i i0 i1)
/-- a pattern more -/
theorem Yd.addP {g : AG} {M : AM} {O a : Nat} {A : YA} {s q q' v : Int → Int} {n : Int} (h : Yd g M O A s q) (hq : q 1 < 6) (ha : gR g 105 (q 1) = a) (ho : Ou g O a) (hk : gK g a = 20 ∧ (gL g a : Int) = n) (hn : 0 ≤ n ∧ n ≤ 6) (mv : ∀ i : Int, 0 ≤ i → i < n → M a i = v i) (f1 : q' 1 = q 1 + 1) (f2 : q' (10 + q 1) = n) (f3 : ∀ i : Int, 0 ≤ i → i < n → q' (16 + ((6 * q 1) + i)) = v i) (f4 : ∀ j : Int, 0 ≤ j → j < 10 → j ≠ 1 → q' j = q j) (f5 : ∀ k : Int, 0 ≤ k → k < q 1 → q' (10 + k) = q (10 + k) ∧ ∀ i : Int, 0 ≤ i → i < 6 → q' (16 + ((6 * k) + i)) = q (16 + ((6 * k) + i))) (hq6 : ∀ k : Int, 0 ≤ k → k < q 1 → q (10 + k) ≤ 6) : Yd g (up2 M 101 9 (q 1 + 1)) O (A.1, A.2.1, (fun j => if j = q 1 then a else A.P j), A.2.2.2) s q' := by
  have hc := h.c20 (c := 101) (by omega)
  obtain ⟨G, m, ct, ⟨l3, l4, l5, l6, l7⟩⟩ := h
  have g0 : q' 0 = q 0 := f4 0 (by omega) (by omega) (by omega)
  have hA : ∀ j : Int, YA.P (A.1, A.2.1, (fun j => if j = q 1 then a else A.P j), A.2.2.2) j = if j = q 1 then a else A.P j := fun _ => rfl
  have hao := ho.1
  refine ⟨⟨G.n, G.o, G.ky, G.k4, G.l4, G.k5, G.l5, G.k6, G.l6, G.k7, G.l7, G.k8, G.l8, G.k9, G.l9, G.ka, G.la, G.r1, G.r2, G.r3, G.r4, G.r5, G.r6, G.r7, G.rr, G.ri, G.dd, G.di, fun k k0 k1 => ?_, fun k k0 k1 => ?_, G.cc⟩, ⟨?_, ?_, ?_, ?_, ?_, ?_, ?_⟩, fun k k0 k1 i i0 i1 => ?_, ⟨l3, l4, l5, by rw [g0]; exact l6, by rw [f1]; omega⟩⟩
  · rw [g0] at k1; exact G.kk k k0 k1
  · rw [hA]
    by_cases e : k = q 1
    · rw [if_pos e, e, f2]; exact ⟨ha, ho, hk⟩
    · rw [f1] at k1
      rw [if_neg e, (f5 k k0 (by omega)).1]; exact G.pp k k0 (by omega)
  · intro c y z hcl
    have hm := m.cl c y z hcl
    rcases hcl with h1 | h1 | h1 | ⟨k, k0, k1, rfl, _⟩ | ⟨k, k0, k1, rfl, _⟩
    · rw [h1.1] at hm ⊢; exact rd_ni (by omega) hm
    · exact rd_na (by omega) hm
    · exact rd_na (by omega) hm
    · exact rd_na (hc.1 k k0 k1) hm
    · exact rd_na (hc.2.1 k k0 k1) hm
  · exact fun k k0 k1 => rd_na (hc.1 k k0 k1) (m.rn k k0 k1)
  · exact fun k k0 k1 => rd_na (hc.2.1 k k0 k1) (m.dn k k0 k1)
  · rw [g0]; exact rd_ni (by omega) m.q0
  · rw [f1]; exact rd_eq
  · intro k k0 k1
    rw [g0] at k1
    rw [f4 (2 + k) (by omega) (by omega) (by omega), f4 (6 + k) (by omega) (by omega) (by omega)]
    exact ⟨rd_na (hc.2.2.1 k k0 k1) (m.kk k k0 k1).1, rd_na (hc.2.2.1 k k0 k1) (m.kk k k0 k1).2⟩
  · intro k k0 k1 i i0 i1
    rw [hA]
    by_cases e : k = q 1
    · rw [e, f2] at i1
      rw [if_pos e, e, f3 i i0 i1]; exact rd_na (by omega) (mv i i0 i1)
    · rw [f1] at k1
      rw [(f5 k k0 (by omega)).1] at i1
      have h6 := hq6 k k0 (by omega)
      rw [if_neg e, (f5 k k0 (by omega)).2 i i0 (by omega)]
      exact rd_na (hc.2.2.2.1 k k0 (by omega)) (m.pp k k0 (by omega) i i0 i1)
  · exact rd_na (hc.2.2.2.2 k k0 k1) (ct k k0 k1 i i0 i1)
theorem patQ_f {p : Int} (hp : 0 ≤ p ∧ p < 6) : ∀ (xs : List Int) (q : Int → Int) (c : Int), q 1 = p + 1 → q (10 + p) = c → 0 ≤ c → c + xs.length ≤ 6 → patQ q xs 1 = p + 1 ∧ patQ q xs (10 + p) = c + xs.length ∧ (∀ i : Nat, i < xs.length → patQ q xs (16 + ((6 * p) + (c + i))) = xs.getD i 0) ∧ ∀ j : Int, j ≠ 10 + p → (j < 16 + ((6 * p) + c) ∨ 16 + ((6 * p) + c) + xs.length ≤ j) → patQ q xs j = q j := by
  intro xs
  induction xs with
  | nil =>
    intro q c h1 h2 h3 h4
    exact ⟨h1, by rw [show patQ q [] = q from rfl, h2]; show c = c + ((0 : Nat) : Int); omega, fun i hi => absurd hi (by show ¬ i < 0; omega), fun j _ _ => rfl⟩
  | cons x ys ih =>
    intro q c h1 h2 h3 h4
    have hlen : ((x :: ys).length : Int) = (ys.length : Int) + 1 := by show ((ys.length + 1 : Nat) : Int) = _; omega
    have e : extP q x = upI (upI q (16 + (6 * p + c)) x) (10 + p) (c + 1) := by
      unfold extP
      rw [h1, show p + 1 - 1 = p by omega, h2]
    have e1 : extP q x 1 = p + 1 := by rw [e, upI_ne (by omega), upI_ne (by omega)]; exact h1
    have e2 : extP q x (10 + p) = c + 1 := by rw [e, upI_eq]
    obtain ⟨g1, g2, g3, g4⟩ := ih (extP q x) (c + 1) e1 e2 (by omega) (by omega)
    refine ⟨g1, by rw [show patQ q (x :: ys) = patQ (extP q x) ys from rfl, g2]; omega, fun i hi => ?_, fun j hj1 hj2 => ?_⟩
    · show patQ (extP q x) ys _ = _
      cases i with
      | zero =>
        rw [g4 _ (by omega) (Or.inl (by omega)), e, upI_ne (by omega)]
        show upI q (16 + (6 * p + c)) x (16 + ((6 * p) + (c + ((0 : Nat) : Int)))) = x
        rw [show (16 + ((6 * p) + (c + ((0 : Nat) : Int))) : Int) = 16 + (6 * p + c) by omega, upI_eq]
      | succ i =>
        have hi2 : i + 1 < ys.length + 1 := hi
        have h9 := g3 i (by omega)
        rw [show (16 + ((6 * p) + (c + ((i + 1 : Nat) : Int))) : Int) = 16 + ((6 * p) + (c + 1 + (i : Int))) by omega, h9]
        rfl
    · show patQ (extP q x) ys j = q j
      rw [g4 j hj1 (by omega), e, upI_ne hj1, upI_ne (by omega)]
