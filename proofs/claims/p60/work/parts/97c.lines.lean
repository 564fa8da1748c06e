/-! THE LINES: rods, orders, patterns -/
theorem PI_rods {t : Tx} {q s : Int → Int} {k m : Int} (h : PI t q s) (hk : 0 ≤ k ∧ k < q 0) (hq : q 0 ≤ 4) (hm : 1 ≤ m ∧ m ≤ 9) (hs : s 3 + m ≤ 24) : PI (sayN (say (sayN (sayW t (stx 11) (stn 11)) k) 32) m) q (itv (fun _ t => addT t k (q (2 + k))) s 0 m.toNat) := by
  have h0 := h.1
  obtain ⟨t1, ht1⟩ : ∃ z : Tx, z = sayW t (stx 11) (stn 11) := ⟨_, rfl⟩
  have l1 : t1.1 = t.1 + 6 := by rw [ht1, sayW_l (m := 6) (by decide)]; rfl
  rw [← ht1]
  obtain ⟨t2, ht2⟩ : ∃ z : Tx, z = sayN t1 k := ⟨_, rfl⟩
  have l2 : t1.1 + 1 ≤ t2.1 ∧ t2.1 ≤ t1.1 + 3 := by rw [ht2]; exact sayN_1
  rw [← ht2]
  obtain ⟨t3, ht3⟩ : ∃ z : Tx, z = say t2 32 := ⟨_, rfl⟩
  have l3 : t3.1 = t2.1 + 1 := by rw [ht3]; rfl
  rw [← ht3]
  obtain ⟨t4, ht4⟩ : ∃ z : Tx, z = sayN t3 m := ⟨_, rfl⟩
  have l4 : t3.1 + 1 ≤ t4.1 ∧ t4.1 ≤ t3.1 + 3 := by rw [ht4]; exact sayN_1
  rw [← ht4]
  have key : ∀ by_ : Int → Int, AgT by_ t4 → AgT by_ t ∧ (∀ i : Int, 0 ≤ i → i < 6 → by_ (t.1 + i) = stx 11 i) ∧ Dg by_ (t.1 + 6) k t2.1 ∧ by_ t2.1 = 32 ∧ Dg by_ (t2.1 + 1) m t4.1 := fun by_ ha => by
    rw [ht4] at ha
    obtain ⟨a4, d4⟩ := ha.num (by omega) ⟨by omega, by omega⟩
    rw [← ht4, l3] at d4
    rw [ht3] at a4
    obtain ⟨a3, b3⟩ := a4.say (by omega)
    rw [ht2] at a3
    obtain ⟨a2, d2⟩ := a3.num (by omega) ⟨by omega, by omega⟩
    rw [← ht2, l1] at d2
    rw [ht1] at a2
    obtain ⟨a0, w1⟩ := a2.wrd h0
    exact ⟨a0, w1, d2, b3, d4⟩
  refine h.line (by omega) (fun by_ ha => ?_) (fun by_ n ha hn => ?_)
  · have k := key by_ ha
    have k2 := k.2.1 0 (by omega) (by omega)
    rw [Int.add_zero] at k2
    exact ⟨k.1, k2.trans (by decide)⟩
  · have hx := nx_of hn
    obtain ⟨-, w1, d2, b3, d4⟩ := key by_ ha
    have b0 : by_ (t.1 + 1 + 4) = 32 := by
      have h := w1 5 (by omega) (by omega)
      rw [show t.1 + 5 = t.1 + 1 + 4 by omega] at h
      exact h.trans (by decide)
    have y0 : ∀ i : Int, 0 ≤ i → i < 4 → by_ (t.1 + 1 + i) = tw 4 i ∧ 97 ≤ tw 4 i ∧ tw 4 i ≤ 122 := fun i i0 i1 => by
      have h := w_rods i i0 i1
      refine ⟨?_, h.2⟩
      rw [show t.1 + 1 + i = t.1 + (1 + i) by omega]
      exact (w1 _ (by omega) (by omega)).trans h.1
    have k0 := lw_k (n := n) (k := 0) (by omega) y0 (by omega) b0
    have z0 := wd_yes (k := 4) (m := 4) k0.1 k0.2 (fun i i0 i1 => (y0 i i0 i1).1)
    have x3 : wdA by_ n 3 4 (t.1 + 1) = 0 := wd_let k0.1 (by decide) (by have h9 := (y0 0 (by omega) (by omega)).1; rw [Int.add_zero] at h9; rw [h9]; decide)
    rw [show t.1 + 6 = t.1 + 1 + 4 + 1 by omega] at d2
    have k1 := bn_tok (n := n) b0 d2 (by omega) (Or.inr (Or.inl b3))
    have n1 := nu_yes (lo := 0) (hi := (q 0 - 1)) k1.1 k1.2.2 ⟨by omega, by omega⟩
    have k2 := bn_tok (n := n) b3 d4 hx.1 hx.2
    have n2 := nu_yes (lo := 1) (hi := 9) k2.1 k2.2.2 ⟨by omega, by omega⟩
    unfold lineL
    rw [x3, if_neg (by decide), z0, if_pos (by decide)]
    unfold rodsL
    rw [k0.2.2, k1.2.1, k2.2.1, if_neg n1, if_neg n2, k1.2.2, k2.2.2, if_neg (by omega)]
theorem PI_order {t : Tx} {q s : Int → Int} {l m v d : Int} (h : PI t q s) (hl : 1 ≤ l ∧ l ≤ 99) (hm : 1 ≤ m ∧ m ≤ 9) (hv : 0 ≤ v ∧ v ≤ 99) (hd : 0 ≤ d ∧ d ≤ 99) (hs : s 4 < 12) : PI (sayN (say (sayN (say (sayN (say (sayN (sayW t (stx 12) (stn 12)) l) 32) m) 32) v) 32) d) q (ordS s l m v d) := by
  have h0 := h.1
  obtain ⟨t1, ht1⟩ : ∃ z : Tx, z = sayW t (stx 12) (stn 12) := ⟨_, rfl⟩
  have l1 : t1.1 = t.1 + 7 := by rw [ht1, sayW_l (m := 7) (by decide)]; rfl
  rw [← ht1]
  obtain ⟨t2, ht2⟩ : ∃ z : Tx, z = sayN t1 l := ⟨_, rfl⟩
  have l2 : t1.1 + 1 ≤ t2.1 ∧ t2.1 ≤ t1.1 + 3 := by rw [ht2]; exact sayN_1
  rw [← ht2]
  obtain ⟨t3, ht3⟩ : ∃ z : Tx, z = say t2 32 := ⟨_, rfl⟩
  have l3 : t3.1 = t2.1 + 1 := by rw [ht3]; rfl
  rw [← ht3]
  obtain ⟨t4, ht4⟩ : ∃ z : Tx, z = sayN t3 m := ⟨_, rfl⟩
  have l4 : t3.1 + 1 ≤ t4.1 ∧ t4.1 ≤ t3.1 + 3 := by rw [ht4]; exact sayN_1
  rw [← ht4]
  obtain ⟨t5, ht5⟩ : ∃ z : Tx, z = say t4 32 := ⟨_, rfl⟩
  have l5 : t5.1 = t4.1 + 1 := by rw [ht5]; rfl
  rw [← ht5]
  obtain ⟨t6, ht6⟩ : ∃ z : Tx, z = sayN t5 v := ⟨_, rfl⟩
  have l6 : t5.1 + 1 ≤ t6.1 ∧ t6.1 ≤ t5.1 + 3 := by rw [ht6]; exact sayN_1
  rw [← ht6]
  obtain ⟨t7, ht7⟩ : ∃ z : Tx, z = say t6 32 := ⟨_, rfl⟩
  have l7 : t7.1 = t6.1 + 1 := by rw [ht7]; rfl
  rw [← ht7]
  obtain ⟨t8, ht8⟩ : ∃ z : Tx, z = sayN t7 d := ⟨_, rfl⟩
  have l8 : t7.1 + 1 ≤ t8.1 ∧ t8.1 ≤ t7.1 + 3 := by rw [ht8]; exact sayN_1
  rw [← ht8]
  have key : ∀ by_ : Int → Int, AgT by_ t8 → AgT by_ t ∧ (∀ i : Int, 0 ≤ i → i < 7 → by_ (t.1 + i) = stx 12 i) ∧ Dg by_ (t.1 + 7) l t2.1 ∧ by_ t2.1 = 32 ∧ Dg by_ (t2.1 + 1) m t4.1 ∧ by_ t4.1 = 32 ∧ Dg by_ (t4.1 + 1) v t6.1 ∧ by_ t6.1 = 32 ∧ Dg by_ (t6.1 + 1) d t8.1 := fun by_ ha => by
    rw [ht8] at ha
    obtain ⟨a8, d8⟩ := ha.num (by omega) ⟨by omega, by omega⟩
    rw [← ht8, l7] at d8
    rw [ht7] at a8
    obtain ⟨a7, b7⟩ := a8.say (by omega)
    rw [ht6] at a7
    obtain ⟨a6, d6⟩ := a7.num (by omega) ⟨by omega, by omega⟩
    rw [← ht6, l5] at d6
    rw [ht5] at a6
    obtain ⟨a5, b5⟩ := a6.say (by omega)
    rw [ht4] at a5
    obtain ⟨a4, d4⟩ := a5.num (by omega) ⟨by omega, by omega⟩
    rw [← ht4, l3] at d4
    rw [ht3] at a4
    obtain ⟨a3, b3⟩ := a4.say (by omega)
    rw [ht2] at a3
    obtain ⟨a2, d2⟩ := a3.num (by omega) ⟨by omega, by omega⟩
    rw [← ht2, l1] at d2
    rw [ht1] at a2
    obtain ⟨a0, w1⟩ := a2.wrd h0
    exact ⟨a0, w1, d2, b3, d4, b5, d6, b7, d8⟩
  refine h.line (by omega) (fun by_ ha => ?_) (fun by_ n ha hn => ?_)
  · have k := key by_ ha
    have k2 := k.2.1 0 (by omega) (by omega)
    rw [Int.add_zero] at k2
    exact ⟨k.1, k2.trans (by decide)⟩
  · have hx := nx_of hn
    obtain ⟨-, w1, d2, b3, d4, b5, d6, b7, d8⟩ := key by_ ha
    have b0 : by_ (t.1 + 1 + 5) = 32 := by
      have h := w1 6 (by omega) (by omega)
      rw [show t.1 + 6 = t.1 + 1 + 5 by omega] at h
      exact h.trans (by decide)
    have y0 : ∀ i : Int, 0 ≤ i → i < 5 → by_ (t.1 + 1 + i) = tw 5 i ∧ 97 ≤ tw 5 i ∧ tw 5 i ≤ 122 := fun i i0 i1 => by
      have h := w_order i i0 i1
      refine ⟨?_, h.2⟩
      rw [show t.1 + 1 + i = t.1 + (1 + i) by omega]
      exact (w1 _ (by omega) (by omega)).trans h.1
    have k0 := lw_k (n := n) (k := 0) (by omega) y0 (by omega) b0
    have z0 := wd_yes (k := 5) (m := 5) k0.1 k0.2 (fun i i0 i1 => (y0 i i0 i1).1)
    have x3 : wdA by_ n 3 4 (t.1 + 1) = 0 := wd_len k0.1 k0.2.2 (by omega)
    have x4 : wdA by_ n 4 4 (t.1 + 1) = 0 := wd_len k0.1 k0.2.2 (by omega)
    rw [show t.1 + 7 = t.1 + 1 + 5 + 1 by omega] at d2
    have k1 := bn_tok (n := n) b0 d2 (by omega) (Or.inr (Or.inl b3))
    have n1 := nu_yes (lo := 1) (hi := 200) k1.1 k1.2.2 ⟨by omega, by omega⟩
    have k2 := bn_tok (n := n) b3 d4 (by omega) (Or.inr (Or.inl b5))
    have n2 := nu_yes (lo := 1) (hi := 9) k2.1 k2.2.2 ⟨by omega, by omega⟩
    have k3 := bn_tok (n := n) b5 d6 (by omega) (Or.inr (Or.inl b7))
    have n3 := nu_yes (lo := 0) (hi := 99) k3.1 k3.2.2 ⟨by omega, by omega⟩
    have k4 := bn_tok (n := n) b7 d8 hx.1 hx.2
    have n4 := nu_yes (lo := 0) (hi := 99) k4.1 k4.2.2 ⟨by omega, by omega⟩
    unfold lineL
    rw [x3, if_neg (by decide), x4, if_neg (by decide), z0, if_pos (by decide)]
    unfold ordL
    rw [if_neg (by omega), k0.2.2, k1.2.1, k2.2.1, k3.2.1, k4.2.1, if_neg n1, if_neg n2, if_neg n3, if_neg n4, k1.2.2, k2.2.2, k3.2.2, k4.2.2]
/-- the lengths of a pattern, as they are said -/
def patT (t : Tx) : List Int → Tx
  | [] => t
  | x :: xs => patT (sayN (say t 32) x) xs
def patQ (q : Int → Int) : List Int → (Int → Int)
  | [] => q
  | x :: xs => patQ (extP q x) xs
theorem patT_end {t : Tx} {x : Int} : ∀ (xs : List Int) (t : Tx), patT t (xs ++ [x]) = sayN (say (patT t xs) 32) x
  | [], _ => rfl
  | _ :: ys, _ => patT_end (t := t) ys _
theorem patQ_end {x : Int} : ∀ (xs : List Int) (q : Int → Int), patQ q (xs ++ [x]) = extP (patQ q xs) x
  | [], _ => rfl
  | _ :: ys, _ => patQ_end ys _
theorem patT_ge : ∀ (xs : List Int) (t : Tx), t.1 + 2 * xs.length ≤ (patT t xs).1
  | [], t => by show t.1 + 2 * ((0 : Nat) : Int) ≤ t.1; omega
  | x :: ys, t => by
    have h1 := patT_ge ys (sayN (say t 32) x)
    have h2 := (sayN_1 (t := say t 32) (v := x)).1
    have h3 : (say t 32).1 = t.1 + 1 := rfl
    show t.1 + 2 * ((ys.length + 1 : Nat) : Int) ≤ (patT (sayN (say t 32) x) ys).1
    omega
theorem patT_ag {by_ : Int → Int} : ∀ (xs : List Int) (t : Tx), 0 ≤ t.1 → (∀ x ∈ xs, 1 ≤ x ∧ x ≤ 99) → AgT by_ (patT t xs) → AgT by_ t
  | [], _, _, _, h => h
  | x :: ys, t, h0, hx, h => by
    have h1 := patT_ag ys (sayN (say t 32) x) (by have := (sayN_1 (t := say t 32) (v := x)).1; have h3 : (say t 32).1 = t.1 + 1 := rfl; omega) (fun y hy => hx y (List.mem_cons_of_mem _ hy)) h
    have hv := hx x List.mem_cons_self
    exact ((h1.num (show 0 ≤ t.1 + 1 by omega) ⟨by omega, hv.2⟩).1.say h0).1
theorem ptn_go {by_ s : Int → Int} {n : Int} : ∀ (xs : List Int) (k : Nat) (t : Tx) (q : Int → Int), 0 ≤ t.1 → xs.length ≤ k → (∀ x ∈ xs, 1 ≤ x ∧ x ≤ 99) → AgT by_ (patT t xs) → (n = (patT t xs).1 ∨ ((patT t xs).1 < n ∧ by_ (patT t xs).1 = 59)) → ptnN by_ n s k t.1 q = .inr ((patT t xs).1, patQ q xs, s) := by
  intro xs
  induction xs with
  | nil =>
    intro k t q h0 hk hx ha hn
    have hn2 : n = t.1 ∨ (t.1 < n ∧ by_ t.1 = 59) := hn
    have hst : stS by_ n t.1 = t.1 := by
      rcases hn2 with h | h
      · rw [h]; exact st_n
      · exact st_0 (by rw [h.2]; decide)
    have hd : dgB by_ n t.1 = 0 := by
      unfold dgB
      rw [hst]
      rcases hn2 with h | h
      · rw [if_neg (by omega)]
      · rw [h.2, if_neg (fun h9 => absurd h9.2 (by decide))]
    cases k with
    | zero => rw [ptnN, hd, if_pos rfl, hst]; rfl
    | succ k => rw [ptnN, hd, if_pos rfl, hst]; rfl
  | cons x ys ih =>
    intro k t q h0 hk hx ha hn
    have hv := hx x List.mem_cons_self
    have hlen : ys.length + 1 ≤ k := hk
    obtain ⟨k, rfl⟩ : ∃ j : Nat, k = j + 1 := ⟨k - 1, by omega⟩
    have l1 : (say t 32).1 = t.1 + 1 := rfl
    have l2 := sayN_1 (t := say t 32) (v := x)
    have hge := patT_ge ys (sayN (say t 32) x)
    have hag := patT_ag ys (sayN (say t 32) x) (by omega) (fun y hy => hx y (List.mem_cons_of_mem _ hy)) ha
    obtain ⟨a1, d1⟩ := hag.num (show 0 ≤ t.1 + 1 by omega) ⟨by omega, hv.2⟩
    obtain ⟨a2, b1⟩ := a1.say h0
    rw [l1] at d1
    have hf := d1.first
    have hpe : patT t (x :: ys) = patT (sayN (say t 32) x) ys := rfl
    rw [hpe] at hn
    have hnx : (sayN (say t 32) x).1 ≤ n := by have := nx_of hn; omega
    have hnext : n ≤ (sayN (say t 32) x).1 ∨ by_ (sayN (say t 32) x).1 = 32 ∨ by_ (sayN (say t 32) x).1 = 59 := by
      cases ys with
      | nil => exact (nx_of hn).2
      | cons y zs =>
        have hag2 := patT_ag zs (sayN (say (sayN (say t 32) x) 32) y) (by have := (sayN_1 (t := say (sayN (say t 32) x) 32) (v := y)).1; have h3 : (say (sayN (say t 32) x) 32).1 = (sayN (say t 32) x).1 + 1 := rfl; omega) (fun z hz => hx z (List.mem_cons_of_mem _ (List.mem_cons_of_mem _ hz))) ha
        have hy := hx y (List.mem_cons_of_mem _ List.mem_cons_self)
        exact Or.inr (Or.inl ((hag2.num (by show 0 ≤ (sayN (say t 32) x).1 + 1; omega) ⟨by omega, hy.2⟩).1.say (by omega)).2)
    have hst : stS by_ n t.1 = t.1 + 1 := st_1 (by omega) b1 (by omega)
    have hst2 : stS by_ n (t.1 + 1) = t.1 + 1 := st_0 (by omega)
    have hd : dgB by_ n t.1 = 1 := by
      unfold dgB
      rw [hst, if_pos ⟨by omega, pD_t (by omega)⟩]
    have hk1 := num_tok hst2 d1 hnx hnext
    have n1 := nu_yes (lo := 1) (hi := 200) hk1.1 hk1.2.2 ⟨hv.1, by omega⟩
    rw [ptnN, hd, if_neg (by decide), hst, if_neg n1, hk1.2.1, hk1.2.2]
    exact ih k _ _ (by omega) (by omega) (fun y hy => hx y (List.mem_cons_of_mem _ hy)) ha hn
theorem PI_pattern {t : Tx} {q s : Int → Int} {x : Int} {xs : List Int} (h : PI t q s) (hq : q 1 < 6) (hn5 : xs.length ≤ 5) (hx : ∀ y ∈ (x :: xs), 1 ≤ y ∧ y ≤ 99) : PI (patT (sayW t (stx 13) (stn 13)) (x :: xs)) (patQ (entP q) (x :: xs)) s := by
  have h0 := h.1
  obtain ⟨t1, ht1⟩ : ∃ z : Tx, z = sayW t (stx 13) (stn 13) := ⟨_, rfl⟩
  have l1 : t1.1 = t.1 + 8 := by rw [ht1, sayW_l (m := 8) (by decide)]; rfl
  rw [← ht1]
  have hge := patT_ge (x :: xs) t1
  have hlen : ((x :: xs).length : Int) ≥ 1 := by show ((xs.length + 1 : Nat) : Int) ≥ 1; omega
  have hv := hx x List.mem_cons_self
  have key : ∀ by_ : Int → Int, AgT by_ (patT t1 (x :: xs)) → AgT by_ t ∧ (∀ i : Int, 0 ≤ i → i < 8 → by_ (t.1 + i) = stx 13 i) ∧ by_ t1.1 = 32 := fun by_ ha => by
    have a1 := patT_ag xs (sayN (say t1 32) x) (by have := (sayN_1 (t := say t1 32) (v := x)).1; have h3 : (say t1 32).1 = t1.1 + 1 := rfl; omega) (fun y hy => hx y (List.mem_cons_of_mem _ hy)) ha
    obtain ⟨a2, b1⟩ := (a1.num (show 0 ≤ t1.1 + 1 by omega) ⟨by omega, hv.2⟩).1.say (by omega)
    rw [ht1] at a2
    obtain ⟨a4, w1⟩ := a2.wrd h0
    exact ⟨a4, w1, b1⟩
  refine h.line (by omega) (fun by_ ha => ?_) (fun by_ n ha hn => ?_)
  · have k := key by_ ha
    have k2 := k.2.1 0 (by omega) (by omega)
    rw [Int.add_zero] at k2
    exact ⟨k.1, k2.trans (by decide)⟩
  · have hxn := nx_of hn
    obtain ⟨-, w1, b1⟩ := key by_ ha
    have b0 : by_ (t.1 + 1 + 7) = 32 := by rw [show t.1 + 1 + 7 = t1.1 by omega]; exact b1
    have y0 : ∀ i : Int, 0 ≤ i → i < 7 → by_ (t.1 + 1 + i) = tw 6 i ∧ 97 ≤ tw 6 i ∧ tw 6 i ≤ 122 := fun i i0 i1 => by
      have h := w_pattern i i0 i1
      refine ⟨?_, h.2⟩
      rw [show t.1 + 1 + i = t.1 + (1 + i) by omega]
      exact (w1 _ (by omega) (by omega)).trans h.1
    have k0 := lw_k (n := n) (k := 0) (by omega) y0 (by omega) b0
    have z0 := wd_yes (k := 6) (m := 7) k0.1 k0.2 (fun i i0 i1 => (y0 i i0 i1).1)
    have x3 : wdA by_ n 3 4 (t.1 + 1) = 0 := wd_len k0.1 k0.2.2 (by omega)
    have x4 : wdA by_ n 4 4 (t.1 + 1) = 0 := wd_len k0.1 k0.2.2 (by omega)
    have x5 : wdA by_ n 5 5 (t.1 + 1) = 0 := wd_len k0.1 k0.2.2 (by omega)
    -- the first length
    have l2 := sayN_1 (t := say t1 32) (v := x)
    have l3 : (say t1 32).1 = t1.1 + 1 := rfl
    have hpe : patT t1 (x :: xs) = patT (sayN (say t1 32) x) xs := rfl
    have hge2 := patT_ge xs (sayN (say t1 32) x)
    have hag := patT_ag xs (sayN (say t1 32) x) (by omega) (fun y hy => hx y (List.mem_cons_of_mem _ hy)) ha
    obtain ⟨_, d1⟩ := hag.num (show 0 ≤ t1.1 + 1 by omega) ⟨by omega, hv.2⟩
    rw [l3, show t1.1 + 1 = t.1 + 1 + 7 + 1 by omega] at d1
    rw [hpe] at hn hxn
    have hnext : n ≤ (sayN (say t1 32) x).1 ∨ by_ (sayN (say t1 32) x).1 = 32 ∨ by_ (sayN (say t1 32) x).1 = 59 := by
      cases xs with
      | nil => exact hxn.2
      | cons y zs =>
        have hag2 := patT_ag zs (sayN (say (sayN (say t1 32) x) 32) y) (by have := (sayN_1 (t := say (sayN (say t1 32) x) 32) (v := y)).1; have h3 : (say (sayN (say t1 32) x) 32).1 = (sayN (say t1 32) x).1 + 1 := rfl; omega) (fun z hz => hx z (List.mem_cons_of_mem _ (List.mem_cons_of_mem _ hz))) ha
        have hy := hx y (List.mem_cons_of_mem _ List.mem_cons_self)
        exact Or.inr (Or.inl ((hag2.num (by show 0 ≤ (sayN (say t1 32) x).1 + 1; omega) ⟨by omega, hy.2⟩).1.say (by omega)).2)
    have k1 := bn_tok (n := n) b0 d1 (by omega) hnext
    have n1 := nu_yes (lo := 1) (hi := 200) k1.1 k1.2.2 ⟨hv.1, by omega⟩
    unfold lineL
    rw [x3, if_neg (by decide), x4, if_neg (by decide), x5, if_neg (by decide), z0, if_pos (by decide)]
    unfold ptnL
    rw [if_neg (by omega), k0.2.2, if_neg n1, k1.2.1, k1.2.2]
    exact ptn_go xs 5 _ _ (by omega) hn5 (fun y hy => hx y (List.mem_cons_of_mem _ hy)) ha hn
