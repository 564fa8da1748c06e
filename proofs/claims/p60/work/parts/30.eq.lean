/-! THE CLASS'S QUESTIONS ARE THE REFERENCE'S -/
theorem e_213 {b : Int} {q s : Int → Int} (hV : Val b q s) {x : Int} (hx : 1 ≤ x) (p : Int) : r213 s x p = r34 s x p := by
  unfold r213 r34 k213 k34
  refine itv_eq (fun _ _ => True) trivial _ (fun i a h0 h1 _ => ⟨?_, trivial⟩)
  have y := V_3 hV
  have z1 := V_us hV (i := i) (by omega) (by omega)
  unfold f213 f34
  grind
theorem e_218 {s : Int → Int} {x : Int} (hx : 1 ≤ x) : r218 s x = r25 s x := by
  unfold r218 r25 k218 k25
  refine itv_eq (fun _ _ => True) trivial _ (fun i a h0 h1 _ => ⟨?_, trivial⟩)
  unfold f218 f25
  grind
theorem e_218z {b : Int} {q s : Int → Int} (hV : Val b q s) : r218 s 0 = r24 s 200 := by
  unfold r218 r24 k218 k24
  refine itv_eq (fun _ _ => True) trivial _ (fun i a h0 h1 _ => ⟨?_, trivial⟩)
  have y := V_4 hV
  have z1 := V_o0 hV (i := i) (by omega) (by omega)
  unfold f218 f24
  grind
theorem e_192 {s : Int → Int} : r192 s = r20 s := rfl
theorem e_207 {s : Int → Int} {x : Int} : r207 s x = r22 s x := rfl
theorem p_213 {s : Int → Int} {x : Int} (n : Nat) : (itv (f213 s x 0) (-1) 0 n = -1 ↔ ∀ r : Int, 0 ≤ r → r < n → ¬ (s (174 + r) = 0 ∧ x ≤ s (94 + r))) ∧ -1 ≤ itv (f213 s x 0) (-1) 0 n ∧ itv (f213 s x 0) (-1) 0 n < n + (if n = 0 then 1 else 0) := by
  have h := itv_inv (f := f213 s x 0) (a0 := -1) (lo := 0) (fun i a => (a = -1 ↔ ∀ r : Int, 0 ≤ r → r < i → ¬ (s (174 + r) = 0 ∧ x ≤ s (94 + r))) ∧ -1 ≤ a ∧ (a = -1 ∨ a < i)) ⟨⟨fun _ r h0 h1 => by omega, fun _ => rfl⟩, by omega, Or.inl rfl⟩ n (fun i a h0 h1 h2 => ?_)
  · rw [Int.zero_add] at h
    refine ⟨h.1, h.2.1, ?_⟩
    have := h.2.2
    split <;> omega
  · obtain ⟨h3, h4, h5⟩ := h2
    have h6 : f213 s x 0 i a = if s (174 + i) = 0 ∧ x ≤ s (94 + i) ∧ a = -1 then i else a := by unfold f213; grind
    rw [h6]
    by_cases hc : s (174 + i) = 0 ∧ x ≤ s (94 + i) ∧ a = -1
    · rw [if_pos hc]
      refine ⟨⟨fun h => by omega, fun h => absurd ⟨hc.1, hc.2.1⟩ (h i h0 (by omega))⟩, by omega, Or.inr (by omega)⟩
    · rw [if_neg hc]
      refine ⟨⟨fun h r g0 g1 => ?_, fun h => h3.mpr (fun r g0 g1 => h r g0 (by omega))⟩, h4, by omega⟩
      by_cases hr : r = i
      · subst hr
        exact fun h7 => hc ⟨h7.1, h7.2, h⟩
      · exact h3.mp h r g0 (by omega)
theorem p_23 {s : Int → Int} (n : Nat) : (itv (f23 s) (-1) 0 n = -1 ∧ ∀ r : Int, 0 ≤ r → r < n → s (94 + r) ≤ 0) ∨ (0 ≤ itv (f23 s) (-1) 0 n ∧ itv (f23 s) (-1) 0 n < n ∧ 0 < s (94 + itv (f23 s) (-1) 0 n) ∧ ∀ r : Int, 0 ≤ r → r < n → s (94 + r) ≤ s (94 + itv (f23 s) (-1) 0 n)) := by
  have h := itv_inv (f := f23 s) (a0 := -1) (lo := 0) (fun i a => (a = -1 ∧ ∀ r : Int, 0 ≤ r → r < i → s (94 + r) ≤ 0) ∨ (0 ≤ a ∧ a < i ∧ 0 < s (94 + a) ∧ ∀ r : Int, 0 ≤ r → r < i → s (94 + r) ≤ s (94 + a))) (Or.inl ⟨rfl, fun r h0 h1 => by omega⟩) n (fun i a h0 h1 h2 => ?_)
  · rw [Int.zero_add] at h
    exact h
  · have hr : ∀ r : Int, r < i + 1 → r = i ∨ r < i := fun r h => by omega
    unfold f23
    rcases h2 with ⟨rfl, h2⟩ | ⟨h3, h4, h5, h6⟩
    · by_cases hc : s (94 + i) ≤ 0
      · rw [if_pos hc]
        refine Or.inl ⟨rfl, fun r g0 g1 => ?_⟩
        rcases hr r g1 with rfl | g
        · exact hc
        · exact h2 r g0 g
      · rw [if_neg hc, if_pos rfl]
        refine Or.inr ⟨h0, by omega, by omega, fun r g0 g1 => ?_⟩
        rcases hr r g1 with rfl | g
        · exact Int.le_refl _
        · have := h2 r g0 g
          omega
    · refine Or.inr ?_
      by_cases hc : s (94 + i) ≤ 0
      · rw [if_pos hc]
        refine ⟨h3, by omega, h5, fun r g0 g1 => ?_⟩
        rcases hr r g1 with rfl | g
        · omega
        · exact h6 r g0 g
      · rw [if_neg hc, if_neg (by omega)]
        by_cases hd : s (94 + i) ≤ s (94 + a)
        · rw [if_pos hd]
          refine ⟨h3, by omega, h5, fun r g0 g1 => ?_⟩
          rcases hr r g1 with rfl | g
          · exact hd
          · exact h6 r g0 g
        · rw [if_neg hd]
          refine ⟨h0, by omega, by omega, fun r g0 g1 => ?_⟩
          rcases hr r g1 with rfl | g
          · exact Int.le_refl _
          · have := h6 r g0 g
            omega
theorem p_fit {b : Int} {q s : Int → Int} (hV : Val b q s) {x : Int} (hx : 1 ≤ x) : r213 s x 0 ≠ -1 ↔ r23 s ≠ -1 ∧ x ≤ s (94 + r23 s) := by
  have y := V_3 hV
  have hn : ((s 3).toNat : Int) = s 3 := Int.toNat_of_nonneg y.1
  have h1 := (p_213 (s := s) (x := x) (s 3).toNat).1
  have h2 := p_23 (s := s) (s 3).toNat
  unfold r213 r23 k213 k23
  rw [hn] at h1 h2
  rcases h2 with ⟨h3, h4⟩ | ⟨h3, h4, h5, h6⟩
  · rw [h3]
    refine ⟨fun h => absurd (h1.mpr (fun r g0 g1 g2 => ?_)) h, fun h => absurd rfl h.1⟩
    have := h4 r g0 g1
    omega
  · refine ⟨fun h => ⟨by omega, ?_⟩, fun h h7 => ?_⟩
    · refine Classical.byContradiction (fun hc => h (h1.mpr (fun r g0 g1 g2 => ?_)))
      have := h6 r g0 g1
      omega
    · refine h1.mp h7 _ h3 h4 ⟨?_, h.2⟩
      refine Classical.byContradiction (fun hc => ?_)
      have := V_us hV h3 h4 hc
      omega
theorem e_23 {b : Int} {q s : Int → Int} (hV : Val b q s) : r213 s 1 2 = r23 s := by
  unfold r213 r23 k213 k23
  refine itv_eq (fun i a => -1 ≤ a ∧ a < i) ⟨by omega, by omega⟩ _ (fun i a h0 h1 h2 => ?_)
  have y := V_3 hV
  have z1 := V_us hV (i := i) (by omega) (by omega)
  have z2 := V_st hV (i := i) (by omega) (by omega)
  constructor
  · unfold f213 f23
    grind
  · unfold f213
    grind
theorem e_47 {b : Int} {q s : Int → Int} (hV : Val b q s) (p : Int) : r241 s p = if r47 s p = -1 then 0 else r47 s p := by
  have y := V_4 hV
  have hn : ((s 4).toNat : Int) = s 4 := Int.toNat_of_nonneg y.1
  have hfit : ∀ i : Int, 0 ≤ i → i < s 4 → (r213 s (s (414 + (8 * i))) 0 ≠ -1 ↔ r23 s ≠ -1 ∧ s (414 + (8 * i)) ≤ s (94 + r23 s)) := fun i h0 h1 => p_fit hV (V_o0 hV h0 h1).1
  unfold r47
  by_cases h23 : r23 s = -1
  · rw [if_neg (show ¬ (r23 s ≠ -1) from fun h => h h23), if_pos rfl]
    have h := itv_inv (f := f241 s p) (a0 := -1) (lo := 0) (fun _ a => a = -1) rfl (s 4).toNat (fun i a h0 h1 h2 => by
      have := hfit i (by omega) (by omega)
      unfold f241
      grind)
    unfold r241 k241
    rw [h]
    rfl
  · rw [if_pos h23]
    by_cases hp : p = 0
    · subst hp
      rw [if_pos rfl]
      have h := itv_eq (f := f241 s 0) (f' := f24 s (s (94 + r23 s))) (a0 := -1) (lo := 0) (fun i a => -1 ≤ a ∧ a < i) ⟨by omega, by omega⟩ (s 4).toNat (fun i a h0 h1 h2 => by
        have := hfit i (by omega) (by omega)
        constructor
        · unfold f241 f24
          grind
        · unfold f241
          grind)
      have hi := itv_inv (f := f24 s (s (94 + r23 s))) (a0 := -1) (lo := 0) (fun i a => -1 ≤ a ∧ a < i) ⟨by omega, by omega⟩ (s 4).toNat (fun i a h0 h1 h2 => by
        unfold f24
        grind)
      unfold r241 k241 r24 k24
      rw [h]
      rw [Int.zero_add, hn] at hi
      generalize itv (f24 s (s (94 + r23 s))) (-1) 0 (s 4).toNat = a at *
      by_cases ha : a = -1
      · simp [ha]
      · have z := V_o0 hV (i := a) (by omega) (by omega)
        simp only [ha, ne_eq, not_false_eq_true, if_true]
        rw [if_neg (by omega)]
    · rw [if_neg hp]
      have h := itv_congr (f := f241 s p) (f' := f27 s (s (94 + r23 s))) (a0 := -1) (b0 := -1) (lo := 0) (fun i a c => -1 ≤ a ∧ a < i ∧ ((a = -1 ∧ c = -1) ∨ (0 ≤ a ∧ c = s (414 + (8 * a)) ∧ 1 ≤ c))) ⟨by omega, by omega, Or.inl ⟨rfl, rfl⟩⟩ (s 4).toNat (fun i a c h0 h1 h2 => by
        have h3 := hfit i (by omega) (by omega)
        have z := V_o0 hV (i := i) (by omega) (by omega)
        unfold f241 f27
        grind)
      unfold r241 k241 r27 k27
      generalize itv (f241 s p) (-1) 0 (s 4).toNat = a at *
      generalize itv (f27 s (s (94 + r23 s))) (-1) 0 (s 4).toNat = c at *
      grind
theorem itx_one {σ ρ : Type} {f : Int → σ → σ ⊕ ρ} {a0 : σ} {lo : Int} {r : ρ} (h : f lo a0 = .inr r) {n : Nat} (hn : 1 ≤ n) : itx f a0 lo n = .inr r := by
  refine itx_out (k := 1) ?_ n hn
  show (match itx f a0 lo 0 with | .inl a => f (lo + (0 : Nat)) a | .inr r => .inr r) = _
  show f (lo + (0 : Nat)) a0 = _
  rw [show lo + ((0 : Nat) : Int) = lo by omega]
  exact h
theorem e_222 {b : Int} {q s : Int → Int} (hV : Val b q s) {p r : Int} (hp : 0 ≤ p ∧ p < q 1) (hr : 0 ≤ r ∧ r < s 3) : r222 s q p r = r37 q s p r := by
  unfold r222 r37 rh222 kh222 k37
  have hf : fh222 s q p = f37 q s p := rfl
  rw [hf]
  by_cases h : s (174 + r) = 0
  · rw [if_neg (by simp [h])]
  · rw [if_pos h]
    have z := V_us hV hr.1 hr.2 h
    have z1 := Q_10 (V_q hV) hp.1 hp.2
    have z2 := Q_16 (V_q hV) (i := 0) hp.1 hp.2 (by omega) (by omega)
    obtain ⟨n, hn⟩ : ∃ n : Nat, (q (10 + p)).toNat = n + 1 := ⟨(q (10 + p)).toNat - 1, by omega⟩
    rw [itx_one (r := -1) (by unfold f37; rw [if_pos rfl]) (by omega), z, hn]
    have h1 : ∀ k : Nat, itx (f37 q s p) 0 0 (k + 1) = .inl (-1) ∨ itx (f37 q s p) 0 0 (k + 1) = .inr (-1) := by
      intro k
      induction k with
      | zero =>
        refine Or.inl ?_
        show f37 q s p (0 + (0 : Nat)) 0 = _
        unfold f37
        rw [show (0 : Int) + ((0 : Nat) : Int) = 0 from rfl, if_neg (by omega), if_neg (by omega)]
      | succ k ih =>
        rw [itx]
        rcases ih with ih | ih
        · rw [ih]
          refine Or.inr ?_
          show f37 q s p _ (-1) = _
          unfold f37
          rw [if_pos rfl]
        · rw [ih]
          exact Or.inr rfl
    rcases h1 n with h | h <;> rw [h] <;> rfl
theorem e_225 {b : Int} {q s : Int → Int} (hV : Val b q s) {p : Int} (hp : 0 ≤ p ∧ p < q 1) : r225 s q p = r38 q s p := by
  unfold r225 r38 k225 k38
  refine itv_eq (fun _ _ => True) trivial _ (fun i a h0 h1 _ => ⟨?_, trivial⟩)
  have y := V_3 hV
  unfold f225 f38
  rw [e_222 hV hp ⟨by omega, by omega⟩]

