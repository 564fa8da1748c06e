/-! FILLING: the next piece -/
theorem p_241 {s : Int → Int} {p : Int} : r241 s p = 0 ∨ ∃ o : Int, 0 ≤ o ∧ o < (s 4).toNat ∧ 0 < s ((414 + (8 * o)) + 4) ∧ s (414 + (8 * o)) = r241 s p ∧ r213 s (s (414 + (8 * o))) 0 ≠ -1 := by
  have h := itv_inv (f := f241 s p) (a0 := -1) (lo := 0) (fun i a => a = -1 ∨ (0 ≤ a ∧ a < i ∧ 0 < s ((414 + (8 * a)) + 4) ∧ r213 s (s (414 + (8 * a))) 0 ≠ -1)) (Or.inl rfl) (s 4).toNat (fun i a h0 h1 h2 => by
    unfold f241
    grind (splits := 40))
  unfold r241 k241
  rw [Int.zero_add] at h
  generalize itv (f241 s p) (-1) 0 (s 4).toNat = a at *
  rcases h with rfl | h
  · exact Or.inl rfl
  · rw [if_pos (by omega)]
    exact Or.inr ⟨a, h.1, h.2.1, h.2.2.1, rfl, h.2.2.2⟩
theorem p_218n {s : Int → Int} {x : Int} (h : r218 s x = -1) (hx : 1 ≤ x) {o : Int} (h0 : 0 ≤ o) (h1 : o < (s 4).toNat) (h2 : 0 < s ((414 + (8 * o)) + 4)) : s (414 + (8 * o)) ≠ x := by
  have h' := itv_inv (f := f218 s x) (a0 := -1) (lo := 0) (fun i a => (a = -1 ∨ 0 ≤ a) ∧ (a = -1 → ∀ o : Int, 0 ≤ o → o < i → 0 < s ((414 + (8 * o)) + 4) → s (414 + (8 * o)) ≠ x)) ⟨Or.inl rfl, fun _ o h0 h1 => by omega⟩ (s 4).toNat (fun i a h0 h1 h2 => by
    obtain ⟨h3, h4⟩ := h2
    have h5 : f218 s x i a = if 0 < s ((414 + (8 * i)) + 4) ∧ s (414 + (8 * i)) = x then (if a = -1 then i else if s ((414 + (8 * a)) + 3) ≤ s ((414 + (8 * i)) + 3) then a else i) else a := by
      unfold f218
      grind (splits := 40)
    rw [h5]
    by_cases hc : 0 < s ((414 + (8 * i)) + 4) ∧ s (414 + (8 * i)) = x
    · rw [if_pos hc]
      refine ⟨by grind, fun h => by grind⟩
    · rw [if_neg hc]
      refine ⟨h3, fun h o g0 g1 g2 => ?_⟩
      by_cases ho : o = i
      · subst ho
        exact fun h6 => hc ⟨g2, h6⟩
      · exact h4 h o g0 (by omega) g2)
  unfold r218 k218 at h
  exact h'.2 h o h0 (by omega) h2
theorem p_213p {s : Int → Int} {x p : Int} : (r213 s x p = -1 ↔ r213 s x 0 = -1) ∧ (r213 s x p = -1 ∨ (0 ≤ r213 s x p ∧ r213 s x p < (s 3).toNat ∧ s (174 + r213 s x p) = 0 ∧ x ≤ s (94 + r213 s x p))) := by
  unfold r213 k213
  have h := itv_congr (f := f213 s x p) (f' := f213 s x 0) (a0 := -1) (b0 := -1) (lo := 0) (fun i a c => (a = -1 ↔ c = -1) ∧ (a = -1 ∨ (0 ≤ a ∧ a < i ∧ s (174 + a) = 0 ∧ x ≤ s (94 + a))) ∧ (c = -1 ∨ 0 ≤ c)) ⟨Iff.rfl, Or.inl rfl, Or.inl rfl⟩ (s 3).toNat (fun i a c h0 h1 h2 => by
    unfold f213
    grind (splits := 40))
  rw [Int.zero_add] at h
  exact ⟨h.1, h.2.1⟩
/-- the next piece: what holds of it -/
theorem p_next {b : Int} {q s : Int → Int} (hV : Val b q s) {p : Int} (h : r47 s p ≠ -1) : r241 s p = r47 s p ∧ 1 ≤ r47 s p ∧ r47 s p ≤ 200 ∧ r213 s (r47 s p) p = r34 s (r47 s p) p ∧ 0 ≤ r34 s (r47 s p) p ∧ r34 s (r47 s p) p < s 3 ∧ r47 s p ≤ s (94 + r34 s (r47 s p) p) ∧ r218 s (r47 s p) ≠ -1 := by
  have e := e_47 hV p
  rw [if_neg h] at e
  have y4 := V_4 hV
  have y3 := V_3 hV
  have h0 : r241 s p ≠ 0 := by
    intro h0
    -- a length of 0 can't come
    rw [e] at h0
    have hfit : r23 s ≠ -1 := by
      intro h23
      apply h
      unfold r47
      rw [if_neg (fun h9 => h9 h23)]
    unfold r47 at h0
    rw [if_pos hfit] at h0
    by_cases hp : p = 0
    · rw [if_pos hp] at h0
      by_cases h24 : r24 s (s (94 + r23 s)) = -1
      · rw [if_neg (fun h9 => h9 h24)] at h0
        omega
      · rw [if_pos h24] at h0
        have hi := itv_inv (f := f24 s (s (94 + r23 s))) (a0 := -1) (lo := 0) (fun i a => -1 ≤ a ∧ a < i) ⟨by omega, by omega⟩ (s 4).toNat (fun i a h0 h1 h2 => by
          unfold f24
          grind)
        have hi2 : -1 ≤ r24 s (s (94 + r23 s)) ∧ r24 s (s (94 + r23 s)) < 0 + (s 4).toNat := hi
        have := V_o0 hV (i := r24 s (s (94 + r23 s))) (by omega) (by omega)
        omega
    · rw [if_neg hp] at h0
      have hi := itv_inv (f := f27 s (s (94 + r23 s))) (a0 := -1) (lo := 0) (fun i a => a = -1 ∨ 1 ≤ a) (Or.inl rfl) (s 4).toNat (fun i a h0 h1 h2 => by
        have := V_o0 hV (i := i) (by omega) (by omega)
        unfold f27
        grind)
      have hi2 : r27 s (s (94 + r23 s)) = -1 ∨ 1 ≤ r27 s (s (94 + r23 s)) := hi
      omega
  rcases p_241 (s := s) (p := p) with h1 | ⟨o, g0, g1, g2, g3, g4⟩
  · exact absurd h1 h0
  · have hz := V_o0 hV (i := o) g0 (by omega)
    rw [← e]
    rw [g3] at g4 hz
    have h5 := p_213p (s := s) (x := r241 s p) (p := p)
    have h6 := e_213 hV hz.1 p
    rw [← h6]
    have h7 : r213 s (r241 s p) p ≠ -1 := fun h9 => g4 (h5.1.mp h9)
    rcases h5.2 with h8 | h8
    · exact absurd h8 h7
    · exact ⟨rfl, hz.1, hz.2, rfl, h8.1, by omega, h8.2.2.2, fun h9 => p_218n h9 hz.1 g0 g1 g2 g3⟩
theorem p_none {b : Int} {q s : Int → Int} (hV : Val b q s) {p : Int} : r241 s p ≤ 0 ↔ r47 s p = -1 := by
  by_cases h : r47 s p = -1
  · have e := e_47 hV p
    rw [if_pos h] at e
    exact ⟨fun _ => h, fun _ => by omega⟩
  · have := p_next hV h
    exact ⟨fun h9 => by omega, fun h9 => absurd h9 h⟩
/-- a piece less is lacking -/
theorem p_lack {b : Int} {q s : Int → Int} (hV : Val b q s) {r x : Int} (hr : 0 ≤ r ∧ r < s 3) (hx : 1 ≤ x) (h : r218 s x ≠ -1) : r20 (cutS q s r x) = r20 s - 1 := by
  have y3 := V_3 hV
  have y4 := V_4 hV
  have hp := p_218b hV hx
  have e4 := cut_13 (q := q) hV hr hx (k := 4) (by omega)
  unfold r20 k20
  rw [e4]
  have h' := itv_congr (f := f20 (cutS q s r x)) (f' := f20 s) (a0 := 0) (b0 := 0) (lo := 0) (fun i a c => a = c - (if r218 s x < i then 1 else 0)) (by rw [if_neg (by omega)]; rfl) (s 4).toNat (fun i a c h0 h1 h2 => by
    unfold f20
    rw [cut_ord (V_5 hV).1 (show 0 ≤ r ∧ r < 80 by omega) hx (by omega), if_neg h]
    grind (splits := 40))
  rw [h', if_pos (by omega)]
theorem r20_rg {b : Int} {q s : Int → Int} (hV : Val b q s) : 0 ≤ r20 s ∧ r20 s ≤ 144 := by
  have y4 := V_4 hV
  have h := itv_inv (f := f20 s) (a0 := 0) (lo := 0) (fun i a => 0 ≤ a ∧ a ≤ 9 * i) (by omega) (s 4).toNat (fun i a h0 h1 h2 => by
    have := V_o4 hV (i := i) (by omega) (by omega)
    unfold f20
    omega)
  unfold r20 k20
  omega
def stepS (q s : Int → Int) (p : Int) : Int → Int := cutS q s (r34 s (r47 s p) p) (r47 s p)
def fillF (q : Int → Int) (p : Int) (i : Int) (a : Int → Int) : (Int → Int) ⊕ ((Int → Int) × Int) := if r47 a p = (-1) then .inr (a, i) else .inl (stepS q a p)
def fillX (q s : Int → Int) (p : Int) : (Int → Int) × Int := itr (itx (fillF q p) s 0 144) (fun a => (a, 144))
def fillS (q s : Int → Int) (p : Int) : Int → Int := (fillX q s p).1
def fillN (q s : Int → Int) (p : Int) : Int := (fillX q s p).2
theorem V_step {b : Int} {q s : Int → Int} (hV : Val b q s) {p : Int} (h : r47 s p ≠ -1) : Val b q (stepS q s p) ∧ r20 (stepS q s p) = r20 s - 1 ∧ stepS q s p 3 = s 3 ∧ stepS q s p 4 = s 4 := by
  have hn := p_next hV h
  have hb := V_b hV
  exact ⟨V_cut hV ⟨by omega, by omega⟩ ⟨by omega, by omega⟩ ⟨by omega, by omega⟩ (fun h9 => absurd h9 hn.2.2.2.2.2.2.2), p_lack hV ⟨by omega, by omega⟩ (by omega) hn.2.2.2.2.2.2.2, cut_13 hV ⟨by omega, by omega⟩ (by omega) (by omega), cut_13 hV ⟨by omega, by omega⟩ (by omega) (by omega)⟩

