/-! WHAT CUTS KEEP -/
theorem log_rd {s t : Int → Int} {r x o k : Int} (h : k < 743 ∧ k ≠ 5) (h5 : 0 ≤ s 5) : log2 s t r x o k = t k := by
  unfold log2
  split
  · simp only [upI]
    grind (splits := 40)
  · rfl
theorem log_5 {s t : Int → Int} {r x o : Int} (e : t 5 = s 5) : log2 s t r x o 5 = if s 5 < 60 then s 5 + 1 else s 5 := by
  unfold log2
  split
  · exact upI_eq
  · exact e
theorem cut_rd {q s : Int → Int} {r x k : Int} (h5 : 0 ≤ s 5) (h : k < 743 ∧ k ≠ 5) : cutS q s r x k = put2 s (cutA q s r x) (r218 s x) x k := log_rd h h5
theorem cutA_rd {q s : Int → Int} {r x k : Int} (hr : 0 ≤ r ∧ r < 80) (h : k ≠ 7 ∧ k ≠ 9 ∧ k ≠ 11 ∧ k ≠ 13) (h2 : k ≠ 94 + r ∧ k ≠ 174 + r ∧ k ≠ 254 + r ∧ k ≠ 334 + r) : cutA q s r x k = s k := by
  unfold cutA
  simp only [upI]
  grind (splits := 40)
/-- what put2 changes -/
theorem put_rd {s t : Int → Int} {o x k : Int} (h : k ≠ 10 ∧ k ≠ 12 ∧ (k < 414 ∨ 542 ≤ k)) (ho : o = -1 ∨ 0 ≤ o ∧ o < 16) (hx : k ≠ 542 + x) : put2 s t o x k = t k := by
  unfold put2
  split
  · exact upI_ne hx
  · simp only [give2, upI]
    grind (splits := 40)
theorem put_ord {s t : Int → Int} {o x k : Int} (hk : 414 ≤ k ∧ k < 542) (hx : 1 ≤ x) : put2 s t o x k = if o = -1 then t k else if k = (414 + (8 * o)) + 4 then s k - 1 else if k = (if s ((414 + (8 * o)) + 3) < s 0 then (414 + (8 * o)) + 6 else (414 + (8 * o)) + 5) then s k + 1 else t k := by
  unfold put2
  split
  · exact upI_ne (by omega)
  · simp only [give2, upI]
    grind (splits := 40)
theorem put_st {s t : Int → Int} {o x k : Int} (hk : 542 ≤ k) (ho : o < 16) : put2 s t o x k = if o = -1 ∧ k = 542 + x then s (542 + x) + 1 else t k := by
  unfold put2
  split
  · next h =>
    simp only [upI, h, true_and]
  · next h =>
    simp only [give2, upI, h, false_and, if_false]
    grind (splits := 40)
theorem cut_lo {q s : Int → Int} {r x k : Int} (h5 : 0 ≤ s 5) (hr : 0 ≤ r ∧ r < 80) (hx : 1 ≤ x) (hk : k = 0 ∨ k = 1 ∨ k = 2 ∨ k = 3 ∨ k = 4) (ho : -1 ≤ r218 s x) : cutS q s r x k = s k := by
  rw [cut_rd h5 (by omega)]
  exact put2_k hr.1 hx ho (by omega)
theorem cut_rod {q s : Int → Int} {r x : Int} (h5 : 0 ≤ s 5) (hr : 0 ≤ r ∧ r < 80) (hx : 1 ≤ x) (ho : r218 s x = -1 ∨ 0 ≤ r218 s x ∧ r218 s x < 16) {i : Int} (hi : 0 ≤ i ∧ i < 80) :
    cutS q s r x (14 + i) = s (14 + i) ∧ cutS q s r x (94 + i) = (if i = r then lftS s r x else s (94 + i)) ∧ cutS q s r x (174 + i) = (if i = r then (if lftS s r x = 0 then 1 else 0) else s (174 + i)) ∧ cutS q s r x (334 + i) = (if i = r then 1 else s (334 + i)) := by
  rw [cut_rd h5 (by omega), cut_rd h5 (by omega), cut_rd h5 (by omega), cut_rd h5 (by omega)]
  rw [put_rd (by omega) ho (by omega), put_rd (by omega) ho (by omega), put_rd (by omega) ho (by omega), put_rd (by omega) ho (by omega)]
  unfold cutA
  simp only [upI]
  grind (splits := 40)
theorem cut_ord {q s : Int → Int} {r x k : Int} (h5 : 0 ≤ s 5) (hr : 0 ≤ r ∧ r < 80) (hx : 1 ≤ x) (hk : 414 ≤ k ∧ k < 542) :
    cutS q s r x k = if r218 s x = -1 then s k else if k = (414 + (8 * r218 s x)) + 4 then s k - 1 else if k = (if s ((414 + (8 * r218 s x)) + 3) < s 0 then (414 + (8 * r218 s x)) + 6 else (414 + (8 * r218 s x)) + 5) then s k + 1 else s k := by
  rw [cut_rd h5 (by omega), put_ord hk hx, cutA_rd hr (by omega) (by omega)]
theorem cut_st {q s : Int → Int} {r x k : Int} (h5 : 0 ≤ s 5) (hr : 0 ≤ r ∧ r < 80) (hk : 542 ≤ k ∧ k < 743) (ho : r218 s x < 16) : cutS q s r x k = if r218 s x = -1 ∧ k = 542 + x then s (542 + x) + 1 else s k := by
  rw [cut_rd h5 (by omega), put_st hk.1 ho, cutA_rd hr (by omega) (by omega)]
theorem r218_rg {b : Int} {q s : Int → Int} (hV : Val b q s) {x : Int} (hx : 1 ≤ x) : r218 s x = -1 ∨ 0 ≤ r218 s x ∧ r218 s x < 16 := by
  have y := V_4 hV
  rcases p_218b hV hx with h | h
  · exact Or.inl h
  · exact Or.inr ⟨h.1, by omega⟩
theorem V_cut {b b' : Int} {q s : Int → Int} (hV : Val b q s) {r x : Int} (hr : 0 ≤ r ∧ r < s 3) (hx : 1 ≤ x ∧ x ≤ s (94 + r)) (hb : b ≤ b' ∧ b' ≤ 1000000) (hb1 : r218 s x = -1 → b + 1 ≤ b') : Val b' q (cutS q s r x) := by
  have y0 := hV.2.1
  have y3 := V_3 hV
  have y4 := V_4 hV
  have y5 := V_5 hV
  have y1 := V_1 hV
  have hr8 : 0 ≤ r ∧ r < 80 := by omega
  have ho := r218_rg hV hx.1
  have hp := p_218b hV hx.1
  have e0 := cut_lo (q := q) (s := s) (r := r) (x := x) y5.1 hr8 hx.1 (k := 0) (by omega) (by omega)
  have e1 := cut_lo (q := q) (s := s) (r := r) (x := x) y5.1 hr8 hx.1 (k := 1) (by omega) (by omega)
  have e2 := cut_lo (q := q) (s := s) (r := r) (x := x) y5.1 hr8 hx.1 (k := 2) (by omega) (by omega)
  have e3 := cut_lo (q := q) (s := s) (r := r) (x := x) y5.1 hr8 hx.1 (k := 3) (by omega) (by omega)
  have e4 := cut_lo (q := q) (s := s) (r := r) (x := x) y5.1 hr8 hx.1 (k := 4) (by omega) (by omega)
  have e5 : cutS q s r x 5 = if s 5 < 60 then s 5 + 1 else s 5 := log_5 (put2_k hr.1 hx.1 (by omega) (by omega))
  refine ⟨⟨by have := V_b hV; omega, hb.2⟩, by rw [e0]; omega, by rw [e1]; exact y1, by rw [e2]; exact V_2 hV, by rw [e3]; exact y3, by rw [e4]; exact y4, ?_, ?_, ?_, ?_, V_q hV⟩
  · rw [e5]
    split <;> omega
  · intro i h0 h1
    rw [e3] at h1
    have hi := hV.2.2.2.2.2.2.2.1 i h0 h1
    obtain ⟨c1, c2, c3, c4⟩ := cut_rod (q := q) y5.1 hr8 hx.1 ho (i := i) ⟨h0, by omega⟩
    unfold RodV at hi ⊢
    rw [c1, c2, c3, c4]
    have hl : 0 ≤ lftS s r x ∧ lftS s r x ≤ s (94 + r) := by unfold lftS; omega
    grind (splits := 40)
  · intro o h0 h1
    rw [e4] at h1
    have hi := hV.2.2.2.2.2.2.2.2.1 o h0 h1
    unfold OrdV at hi ⊢
    have c : ∀ k : Int, 414 ≤ k ∧ k < 542 → _ := fun k hk => cut_ord (q := q) (s := s) (r := r) (x := x) y5.1 hr8 hx.1 hk
    rw [c (414 + 8 * o) (by omega), c (414 + 8 * o + 1) (by omega), c (414 + 8 * o + 2) (by omega), c (414 + 8 * o + 3) (by omega), c (414 + 8 * o + 4) (by omega), c (414 + 8 * o + 5) (by omega), c (414 + 8 * o + 6) (by omega), c (414 + 8 * o + 7) (by omega)]
    by_cases h : r218 s x = -1
    · simp only [h, if_true]
      exact hi
    · simp only [h, if_false]
      by_cases ho : o = r218 s x
      · subst ho
        grind (splits := 40)
      · grind (splits := 40)
  · intro l h0 h1
    rw [cut_st y5.1 hr8 (by omega) (by omega)]
    have hi := hV.2.2.2.2.2.2.2.2.2.1 l h0 h1
    split
    · next h =>
      have := hb1 h.1
      have hl : l = x := by omega
      subst hl
      omega
    · omega

