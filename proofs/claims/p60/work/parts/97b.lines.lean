/-! THE LINES OF A DRAWN TEXT -/
theorem tb {P : Int → Prop} {m : Nat} (h : ∀ i : Nat, i < m → P (i : Int)) (i : Int) (h0 : 0 ≤ i) (h1 : i < m) : P i := by
  have h2 := h i.toNat (by omega)
  rw [Int.toNat_of_nonneg h0] at h2
  exact h2
theorem w_yard (i : Int) (h0 : 0 ≤ i) (h1 : i < 4) : stx 8 (0 + i) = tw 0 i ∧ 97 ≤ tw 0 i ∧ tw 0 i ≤ 122 := tb (P := fun i => stx 8 (0 + i) = tw 0 i ∧ 97 ≤ tw 0 i ∧ tw 0 i ≤ 122) (m := 4) (by decide) i h0 h1
theorem w_kerf (i : Int) (h0 : 0 ≤ i) (h1 : i < 4) : stx 8 (5 + i) = tw 1 i ∧ 97 ≤ tw 1 i ∧ tw 1 i ≤ 122 := tb (P := fun i => stx 8 (5 + i) = tw 1 i ∧ 97 ≤ tw 1 i ∧ tw 1 i ≤ 122) (m := 4) (by decide) i h0 h1
theorem w_keep (i : Int) (h0 : 0 ≤ i) (h1 : i < 4) : stx 9 (1 + i) = tw 2 i ∧ 97 ≤ tw 2 i ∧ tw 2 i ≤ 122 := tb (P := fun i => stx 9 (1 + i) = tw 2 i ∧ 97 ≤ tw 2 i ∧ tw 2 i ≤ 122) (m := 4) (by decide) i h0 h1
theorem w_kind (i : Int) (h0 : 0 ≤ i) (h1 : i < 4) : stx 10 (1 + i) = tw 3 i ∧ 97 ≤ tw 3 i ∧ tw 3 i ≤ 122 := tb (P := fun i => stx 10 (1 + i) = tw 3 i ∧ 97 ≤ tw 3 i ∧ tw 3 i ≤ 122) (m := 4) (by decide) i h0 h1
theorem w_rods (i : Int) (h0 : 0 ≤ i) (h1 : i < 4) : stx 11 (1 + i) = tw 4 i ∧ 97 ≤ tw 4 i ∧ tw 4 i ≤ 122 := tb (P := fun i => stx 11 (1 + i) = tw 4 i ∧ 97 ≤ tw 4 i ∧ tw 4 i ≤ 122) (m := 4) (by decide) i h0 h1
theorem w_order (i : Int) (h0 : 0 ≤ i) (h1 : i < 5) : stx 12 (1 + i) = tw 5 i ∧ 97 ≤ tw 5 i ∧ tw 5 i ≤ 122 := tb (P := fun i => stx 12 (1 + i) = tw 5 i ∧ 97 ≤ tw 5 i ∧ tw 5 i ≤ 122) (m := 5) (by decide) i h0 h1
theorem w_pattern (i : Int) (h0 : 0 ≤ i) (h1 : i < 7) : stx 13 (1 + i) = tw 6 i ∧ 97 ≤ tw 6 i ∧ tw 6 i ≤ 122 := tb (P := fun i => stx 13 (1 + i) = tw 6 i ∧ 97 ≤ tw 6 i ∧ tw 6 i ≤ 122) (m := 7) (by decide) i h0 h1
theorem sayW_l {t : Tx} {j m : Nat} (h : stn j = m) : (sayW t (stx j) (stn j)).1 = t.1 + m := by rw [sayW_1, h]
/-- the head of the text -/
theorem PI_head {K P : Int} (hK : 0 ≤ K ∧ K ≤ 9) (hP : 1 ≤ P ∧ P ≤ 99) : PI (sayN (sayW (sayN (sayW t00 (stx 8) (stn 8)) K) (stx 9) (stn 9)) P) zro (upI (upI zro 1 K) 2 P) := by
  obtain ⟨t1, ht1⟩ : ∃ z : Tx, z = sayW t00 (stx 8) (stn 8) := ⟨_, rfl⟩
  have l1 : t1.1 = 10 := by rw [ht1, sayW_l (m := 10) (by decide)]; rfl
  rw [← ht1]
  obtain ⟨t2, ht2⟩ : ∃ z : Tx, z = sayN t1 K := ⟨_, rfl⟩
  have l2 : t1.1 + 1 ≤ t2.1 ∧ t2.1 ≤ t1.1 + 3 := by rw [ht2]; exact sayN_1
  rw [← ht2]
  obtain ⟨t3, ht3⟩ : ∃ z : Tx, z = sayW t2 (stx 9) (stn 9) := ⟨_, rfl⟩
  have l3 : t3.1 = t2.1 + 6 := by rw [ht3, sayW_l (m := 6) (by decide)]; rfl
  rw [← ht3]
  obtain ⟨t4, ht4⟩ : ∃ z : Tx, z = sayN t3 P := ⟨_, rfl⟩
  have l4 : t3.1 + 1 ≤ t4.1 ∧ t4.1 ≤ t3.1 + 3 := by rw [ht4]; exact sayN_1
  rw [← ht4]
  refine ⟨by omega, fun by_ n ha hn => ⟨(n - t4.1).toNat + 1, Nat.le_refl _, ?_⟩⟩
  have hx := nx_of hn
  rw [ht4] at ha
  obtain ⟨a1, d2⟩ := ha.num (by omega) ⟨by omega, hP.2⟩
  rw [← ht4] at d2
  rw [ht3] at a1
  obtain ⟨a2, w2⟩ := a1.wrd (by omega)
  rw [ht2] at a2
  obtain ⟨a3, d1⟩ := a2.num (by omega) ⟨hK.1, by omega⟩
  rw [← ht2, l1] at d1
  rw [ht1] at a3
  obtain ⟨_, w1⟩ := a3.wrd (by decide)
  have w1' : ∀ i : Int, 0 ≤ i → i < 10 → by_ i = stx 8 i := fun i i0 i1 => by
    have h := w1 i i0 i1
    rw [show t00.1 + i = i by show 0 + i = i; omega] at h
    exact h
  have w2' : ∀ i : Int, 0 ≤ i → i < 6 → by_ (t2.1 + i) = stx 9 i := fun i i0 i1 => w2 i i0 i1
  -- yard
  have b4 : by_ 4 = 32 := (w1' 4 (by omega) (by omega)).trans (by decide)
  have y0 : ∀ i : Int, 0 ≤ i → i < 4 → by_ (0 + i) = tw 0 i ∧ 97 ≤ tw 0 i ∧ tw 0 i ≤ 122 := fun i i0 i1 => by
    have h := w_yard i i0 i1
    exact ⟨(w1' _ (by omega) (by omega)).trans h.1, h.2⟩
  have k0 := lw_k (n := n) (k := 0) (by omega) y0 (by omega) b4
  have z0 := wd_yes (k := 0) (m := 4) k0.1 k0.2 (fun i i0 i1 => (y0 i i0 i1).1)
  have e0 : enS by_ n 0 = 4 := k0.2.2
  -- kerf
  have b9 : by_ 9 = 32 := (w1' 9 (by omega) (by omega)).trans (by decide)
  have b5 : by_ (4 + 1) ≠ 32 := by rw [w1' (4 + 1) (by omega) (by omega)]; decide
  have y1 : ∀ i : Int, 0 ≤ i → i < 4 → by_ (5 + i) = tw 1 i ∧ 97 ≤ tw 1 i ∧ tw 1 i ≤ 122 := fun i i0 i1 => by
    have h := w_kerf i i0 i1
    exact ⟨(w1' _ (by omega) (by omega)).trans h.1, h.2⟩
  have s1 : stS by_ n 4 = 5 := st_1 (by omega) b4 b5
  have k1 := word_tok (m := 4) s1 (by omega) y1 (by omega) (Or.inr b9)
  have z1 := wd_yes (k := 1) (m := 4) s1 k1 (fun i i0 i1 => (y1 i i0 i1).1)
  have e1 : enS by_ n 4 = 9 := k1.2
  -- the cut's loss
  have b10 : by_ t2.1 = 32 := by
    have h := w2' 0 (by omega) (by omega)
    rw [Int.add_zero] at h
    exact h.trans (by decide)
  have k2 := bn_tok (n := n) b9 d1 (by omega) (Or.inr (Or.inl b10))
  have n1 := nu_yes (lo := 0) (hi := 9) k2.1 k2.2.2 hK
  -- keep
  have b11 : by_ (t2.1 + 1) ≠ 32 := by rw [w2' 1 (by omega) (by omega)]; decide
  have b15 : by_ (t2.1 + 1 + 4) = 32 := by
    have h := w2' 5 (by omega) (by omega)
    rw [show t2.1 + 5 = t2.1 + 1 + 4 by omega] at h
    exact h.trans (by decide)
  have y3 : ∀ i : Int, 0 ≤ i → i < 4 → by_ (t2.1 + 1 + i) = tw 2 i ∧ 97 ≤ tw 2 i ∧ tw 2 i ≤ 122 := fun i i0 i1 => by
    have h := w_keep i i0 i1
    refine ⟨?_, h.2⟩
    rw [show t2.1 + 1 + i = t2.1 + (1 + i) by omega]
    exact (w2' _ (by omega) (by omega)).trans h.1
  have s3 : stS by_ n t2.1 = t2.1 + 1 := st_1 (by omega) b10 b11
  have k3 := word_tok (m := 4) s3 (by omega) y3 (by omega) (Or.inr b15)
  have z3 := wd_yes (k := 2) (m := 4) s3 k3 (fun i i0 i1 => (y3 i i0 i1).1)
  -- what is kept
  rw [l3, show t2.1 + 6 = t2.1 + 1 + 4 + 1 by omega] at d2
  have k4 := bn_tok (n := n) b15 d2 hx.1 hx.2
  have n4 := nu_yes (lo := 1) (hi := 200) k4.1 k4.2.2 ⟨hP.1, by omega⟩
  have hh : hdL by_ n zro zro 0 = .inr (t4.1, zro, upI (upI zro 1 K) 2 P) := by
    unfold hdL
    rw [e0, e1, k2.2.1, k3.2, k4.2.1, z0, z1, z3, if_neg (by decide), if_neg (by decide), if_neg n1, if_neg (by decide), if_neg n4, k2.2.2, k4.2.2]
  unfold txtL
  rw [hh]
theorem PI_kind {t : Tx} {q s : Int → Int} {L P : Int} (h : PI t q s) (hL : 1 ≤ L ∧ L ≤ 99) (hP : 1 ≤ P ∧ P ≤ 99) (hq : q 0 < 4) (hne : ∀ k : Int, 0 ≤ k → k < q 0 → q (2 + k) ≠ L) : PI (sayN (say (sayN (sayW t (stx 10) (stn 10)) L) 32) P) (entK q L P) s := by
  have h0 := h.1
  obtain ⟨t1, ht1⟩ : ∃ z : Tx, z = sayW t (stx 10) (stn 10) := ⟨_, rfl⟩
  have l1 : t1.1 = t.1 + 6 := by rw [ht1, sayW_l (m := 6) (by decide)]; rfl
  rw [← ht1]
  obtain ⟨t2, ht2⟩ : ∃ z : Tx, z = sayN t1 L := ⟨_, rfl⟩
  have l2 : t1.1 + 1 ≤ t2.1 ∧ t2.1 ≤ t1.1 + 3 := by rw [ht2]; exact sayN_1
  rw [← ht2]
  obtain ⟨t3, ht3⟩ : ∃ z : Tx, z = say t2 32 := ⟨_, rfl⟩
  have l3 : t3.1 = t2.1 + 1 := by rw [ht3]; rfl
  rw [← ht3]
  obtain ⟨t4, ht4⟩ : ∃ z : Tx, z = sayN t3 P := ⟨_, rfl⟩
  have l4 : t3.1 + 1 ≤ t4.1 ∧ t4.1 ≤ t3.1 + 3 := by rw [ht4]; exact sayN_1
  rw [← ht4]
  have key : ∀ by_ : Int → Int, AgT by_ t4 → AgT by_ t ∧ (∀ i : Int, 0 ≤ i → i < 6 → by_ (t.1 + i) = stx 10 i) ∧ Dg by_ (t.1 + 6) L t2.1 ∧ by_ t2.1 = 32 ∧ Dg by_ (t2.1 + 1) P t4.1 := fun by_ ha => by
    rw [ht4] at ha
    obtain ⟨a1, d2⟩ := ha.num (by omega) ⟨by omega, hP.2⟩
    rw [← ht4, l3] at d2
    rw [ht3] at a1
    obtain ⟨a2, b2⟩ := a1.say (by omega)
    rw [ht2] at a2
    obtain ⟨a3, d1⟩ := a2.num (by omega) ⟨by omega, hL.2⟩
    rw [← ht2, l1] at d1
    rw [ht1] at a3
    obtain ⟨a4, w1⟩ := a3.wrd h0
    exact ⟨a4, w1, d1, b2, d2⟩
  refine h.line (by omega) (fun by_ ha => ?_) (fun by_ n ha hn => ?_)
  · have k := key by_ ha
    have k2 := k.2.1 0 (by omega) (by omega)
    rw [Int.add_zero] at k2
    exact ⟨k.1, k2.trans (by decide)⟩
  · have hx := nx_of hn
    obtain ⟨-, w1, d1, b2, d2⟩ := key by_ ha
    have b5 : by_ (t.1 + 1 + 4) = 32 := by
      have h := w1 5 (by omega) (by omega)
      rw [show t.1 + 5 = t.1 + 1 + 4 by omega] at h
      exact h.trans (by decide)
    have y0 : ∀ i : Int, 0 ≤ i → i < 4 → by_ (t.1 + 1 + i) = tw 3 i ∧ 97 ≤ tw 3 i ∧ tw 3 i ≤ 122 := fun i i0 i1 => by
      have h := w_kind i i0 i1
      refine ⟨?_, h.2⟩
      rw [show t.1 + 1 + i = t.1 + (1 + i) by omega]
      exact (w1 _ (by omega) (by omega)).trans h.1
    have k0 := lw_k (n := n) (k := 0) (by omega) y0 (by omega) b5
    have z0 := wd_yes (k := 3) (m := 4) k0.1 k0.2 (fun i i0 i1 => (y0 i i0 i1).1)
    rw [show t.1 + 6 = t.1 + 1 + 4 + 1 by omega] at d1
    have k1 := bn_tok (n := n) b5 d1 (by omega) (Or.inr (Or.inl b2))
    have n1 := nu_yes (lo := 1) (hi := 200) k1.1 k1.2.2 ⟨hL.1, by omega⟩
    have k2 := bn_tok (n := n) b2 d2 hx.1 hx.2
    have n2 := nu_yes (lo := 1) (hi := 99) k2.1 k2.2.2 hP
    unfold lineL
    rw [z0, if_pos (by decide)]
    unfold kindL
    rw [if_neg (by omega), k0.2.2, k1.2.1, k2.2.1, if_neg n1, if_neg n2, k1.2.2, k2.2.2, r9_0 hne, if_neg (by decide)]
