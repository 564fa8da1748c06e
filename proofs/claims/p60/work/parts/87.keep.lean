/-! WHAT NO CHANGE TOUCHES: the store's place 0; how many rods -/
theorem give_542 {s t : Int → Int} {o : Int} (ho : 0 ≤ o ∧ o < 16) : give2 s t o 542 = t 542 := by
  unfold give2
  rw [upI_ne (by omega), upI_ne (by omega), upI_ne (by split <;> omega), upI_ne (by omega)]
theorem cut_542 {b : Int} {q s : Int → Int} (hV : Val b q s) {r x : Int} (hr : 0 ≤ r ∧ r < s 3) (hx : 1 ≤ x ∧ x ≤ 200) : cutS q s r x 542 = s 542 := by
  have y3 := V_3 hV
  have y4 := V_4 hV
  have y5 := V_5 hV
  have ho := r218_rg hV hx.1
  have e1 : cutA q s r x 542 = s 542 := by
    unfold cutA
    rw [upI_ne (by omega), upI_ne (by omega), upI_ne (by omega), upI_ne (by omega), upI_ne (by omega), upI_ne (by omega), upI_ne (by omega), upI_ne (by omega)]
  have e2 : put2 s (cutA q s r x) (r218 s x) x 542 = s 542 := by
    unfold put2
    by_cases h : r218 s x = -1
    · rw [if_pos h, upI_ne (by omega)]; exact e1
    · rw [if_neg h, give_542 (by omega)]; exact e1
  unfold cutS log2
  by_cases h : s 5 < 60
  · rw [if_pos h, upI_ne (by omega), upI_ne (by omega), upI_ne (by omega), upI_ne (by omega), upI_ne (by omega)]; exact e2
  · rw [if_neg h]; exact e2
theorem scr_542 {q s : Int → Int} {r : Int} (hr : 0 ≤ r ∧ r < 80) : scrA q s r 542 = s 542 := by
  unfold scrA
  rw [upI_ne (by omega), upI_ne (by omega), upI_ne (by omega), upI_ne (by omega)]
theorem fill_542 {b : Int} {q s : Int → Int} (hV : Val b q s) (p : Int) : fillS q s p 542 = s 542 := by
  have h : ∀ k : Nat, (∀ c, itx (fillF q p) s 0 k = .inl c → Val b q c ∧ c 542 = s 542) ∧ (∀ c, itx (fillF q p) s 0 k = .inr c → c.1 542 = s 542) := by
    intro k
    induction k with
    | zero => exact ⟨fun c h => by cases h; exact ⟨hV, rfl⟩, fun c h => by cases h⟩
    | succ k ih =>
      rw [itx]
      split
      · next c e =>
        obtain ⟨h1, h2⟩ := ih.1 c e
        unfold fillF
        split
        · exact ⟨fun c' h => (by cases h), fun c' h => by cases h; exact h2⟩
        · next hn =>
          have g := V_step h1 hn
          have hp := p_next h1 hn
          refine ⟨fun c' h => ?_, fun c' h => (by cases h)⟩
          cases h
          exact ⟨g.1, (cut_542 h1 ⟨by omega, by omega⟩ ⟨by omega, by omega⟩).trans h2⟩
      · next c e => exact ⟨fun c' h => (by cases h), fun c' h => by cases h; exact ih.2 c e⟩
  unfold fillS fillX
  cases e : itx (fillF q p) s 0 144 with
  | inl c => exact ((h 144).1 c e).2
  | inr c => exact (h 144).2 c e
theorem pat_542 {b : Int} {q s : Int → Int} {p r : Int} (hV : Val b q s) (hp : 0 ≤ p ∧ p < q 1) (hr : 0 ≤ r ∧ r < s 3) (h : r37 q s p r ≠ -1) (hb : b + 6 ≤ 1000000) : patS q s p r 542 = s 542 ∧ patS q s p r 3 = s 3 := by
  have z10 := Q_10 (V_q hV) hp.1 hp.2
  have hk : ∀ k : Nat, (k : Int) ≤ q (10 + p) → (itv (patF q p r) (s, 0) 0 k).1 542 = s 542 := by
    intro k
    induction k with
    | zero => exact fun _ => rfl
    | succ k ih =>
      intro hk
      obtain ⟨i1, i2, i3, i4⟩ := V_patN hV hp hr h hb k (by omega)
      have z := Q_16 (V_q hV) hp.1 hp.2 (i := k) (by omega) (by omega)
      show cutS q (itv (patF q p r) (s, 0) 0 k).1 r (q (16 + ((6 * p) + (0 + (k : Int))))) 542 = s 542
      rw [Int.zero_add, cut_542 i1 ⟨by omega, by omega⟩ z]
      exact ih (by omega)
  exact ⟨hk (q (10 + p)).toNat (by omega), (V_patN hV hp hr h hb (q (10 + p)).toNat (by omega)).2.2.2⟩
theorem pf_542 {b : Int} {q s : Int → Int} (hV : Val b q s) (hb : b + 6 ≤ 1000000) : pfS q s 542 = s 542 := by
  have y := Q_1 (V_q hV)
  have hX : ∀ p : Int, 0 ≤ p ∧ p < q 1 → ∀ a : (Int → Int) × Int, Aft b q s a → (pfX q p a).1 542 = a.1 542 := by
    intro p hp a hA
    have h : ∀ k : Nat, (∀ c, itx (pfF q p) a 0 k = .inl c → c.1 542 = a.1 542) ∧ (∀ c, itx (pfF q p) a 0 k = .inr c → c.1 542 = a.1 542) := by
      intro k
      induction k with
      | zero => exact ⟨fun c h => by cases h; rfl, fun c h => by cases h⟩
      | succ k ih =>
        rw [itx]
        split
        · next c e =>
          have h1 := ih.1 c e
          have hc := ((pf_inv hp hA k).1 c e).1
          unfold pfF
          split
          · exact ⟨fun c' h => (by cases h), fun c' h => by cases h; exact h1⟩
          · split
            · exact ⟨fun c' h => (by cases h), fun c' h => by cases h; exact h1⟩
            · next h38 =>
              have g := p_38 hc.1 h38
              refine ⟨fun c' h => ?_, fun c' h => (by cases h)⟩
              cases h
              exact (pat_542 hc.1 hp ⟨g.1, g.2.1⟩ g.2.2 hb).1.trans h1
        · next c e => exact ⟨fun c' h => (by cases h), fun c' h => by cases h; exact ih.2 c e⟩
    unfold pfX
    cases e : itx (pfF q p) a 0 144 with
    | inl c => exact (h 144).1 c e
    | inr c => exact (h 144).2 c e
  have h := itv_inv (f := pfX q) (a0 := (s, 0)) (lo := 0) (fun _ a => Aft b q s a ∧ a.1 542 = s 542) ⟨⟨hV, rfl, rfl, by show s 11 = s 11 + 0; omega⟩, rfl⟩ (q 1).toNat (fun i a h0 h1 h2 => ⟨pfX_aft ⟨h0, by omega⟩ h2.1, (hX i ⟨h0, by omega⟩ a h2.1).trans h2.2⟩)
  exact h.2
theorem ful_keep {b : Int} {q s : Int → Int} (hV : Val b q s) (hb : b + 6 ≤ 1000000) (p : Int) : fulS q s p 542 = s 542 ∧ fulS q s p 3 = s 3 := by
  refine ⟨?_, (ful_aft hV p).2.1⟩
  unfold fulS
  by_cases hp : p = 3
  · rw [if_pos hp]; exact (fill_542 (s := pfS q s) (pf_aft hV).1 1).trans (pf_542 hV hb)
  · rw [if_neg hp]; exact fill_542 hV p
theorem end_keep {b : Int} {q s : Int → Int} (hV : Val b q s) (hb : b + 1 ≤ 1000000) : endS q s 542 = s 542 ∧ endS q s 3 = s 3 := by
  have y3 := V_3 hV
  have h := itv_inv (f := endF q) (a0 := (s, 0)) (lo := 0) (fun _ a => a.1 542 = s 542) rfl (s 3).toNat (fun i a h0 h1 h2 => by
    unfold endF
    (repeat' split)
    · show upI (scrA q a.1 i) (334 + i) 0 542 = s 542
      rw [upI_ne (by omega), scr_542 ⟨by omega, by omega⟩]; exact h2
    · show upI a.1 (334 + i) 0 542 = s 542
      rw [upI_ne (by omega)]; exact h2
    · show upI a.1 (334 + i) 0 542 = s 542
      rw [upI_ne (by omega)]; exact h2
    · show upI a.1 (334 + i) 0 542 = s 542
      rw [upI_ne (by omega)]; exact h2)
  exact ⟨by unfold endS; rw [upI_ne (by omega)]; exact h, (end_aft hV hb).2.2.1⟩
theorem add_keep {s : Int → Int} {k l : Int} (h3 : 0 ≤ s 3 ∧ s 3 < 80) : addT s k l 542 = s 542 ∧ addT s k l 3 = s 3 + 1 := by
  refine ⟨?_, upI_eq⟩
  unfold addT
  rw [upI_ne (by omega), upI_ne (by omega), upI_ne (by omega), upI_ne (by omega), upI_ne (by omega), upI_ne (by omega)]
theorem add_acc {s : Int → Int} {k l v : Int} (h3 : 0 ≤ s 3 ∧ s 3 < 80) (j : Int) : upI (addT s k l) 6 v j = addT (upI s 6 v) k l j := by
  have e3 : upI s 6 v 3 = s 3 := upI_ne (by omega)
  unfold addT
  rw [e3]
  simp only [upI]
  (repeat' split) <;> omega
theorem ord_keep {b : Int} {q s : Int → Int} (hV : Val b q s) {x n v d : Int} (h4 : s 4 < 16) (hx : 1 ≤ x ∧ x ≤ 200) (hn : 1 ≤ n ∧ n ≤ 9) (hv : 0 ≤ v ∧ v ≤ 99) (hd : 0 ≤ d ∧ d ≤ 999) : supS (ordS s x n v d) (s 4) x 542 = s 542 ∧ supS (ordS s x n v d) (s 4) x 3 = s 3 := by
  have y4 := V_4 hV
  have hVo := V_ord hV h4 hx hn hv hd
  have e4 : ordS s x n v d 4 = s 4 + 1 := upI_eq
  have e1 : ordS s x n v d 542 = s 542 := by
    unfold ordS
    rw [upI_ne (by omega), upI_ne (by omega), upI_ne (by omega), upI_ne (by omega), upI_ne (by omega), upI_ne (by omega), upI_ne (by omega), upI_ne (by omega), upI_ne (by omega)]
  have e3 : ordS s x n v d 3 = s 3 := by
    unfold ordS
    rw [upI_ne (by omega), upI_ne (by omega), upI_ne (by omega), upI_ne (by omega), upI_ne (by omega), upI_ne (by omega), upI_ne (by omega), upI_ne (by omega), upI_ne (by omega)]
  obtain ⟨hm, _⟩ := V_supS (l := x) (o := s 4) hVo ⟨by omega, by omega⟩ ⟨by omega, by omega⟩
  have h3 := (sup_aft hVo (o := s 4) (l := x) ⟨by omega, by omega⟩ ⟨by omega, by omega⟩ (supM (ordS s x n v d) (s 4) x).toNat (by omega)).2.2.2.2
  have h := itv_inv (f := supF x (s 4)) (a0 := ordS s x n v d) (lo := 0) (fun _ t => t 542 = s 542) e1 (supM (ordS s x n v d) (s 4) x).toNat (fun i t h0 h1 h2 => by
    show give2 (upI t (542 + x) (t (542 + x) - 1)) (upI t (542 + x) (t (542 + x) - 1)) (s 4) 542 = s 542
    rw [give_542 ⟨by omega, by omega⟩, upI_ne (by omega)]
    exact h2)
  exact ⟨h, h3.trans e3⟩
