/-! WHAT STAYS: numbers outside the row, the account of purchases -/
def Out (s t : Int → Int) : Prop := ∀ k : Int, (k < 0 ∨ 983 ≤ k) → t k = s k
theorem Out.rfl {s : Int → Int} : Out s s := fun _ _ => Eq.refl _
theorem Out.trans {s t u : Int → Int} (h : Out s t) (h' : Out t u) : Out s u := fun k hk => (h' k hk).trans (h k hk)
theorem out_up {s : Int → Int} {k v : Int} (hk : 0 ≤ k ∧ k < 983) : Out s (upI s k v) := fun j hj => upI_ne (by omega)
theorem out_cut {b : Int} {q s : Int → Int} (hV : Val b q s) {r x : Int} (hr : 0 ≤ r ∧ r < s 3) (hx : 1 ≤ x ∧ x ≤ 200) : Out s (cutS q s r x) := by
  intro k hk
  have y3 := V_3 hV
  have y5 := V_5 hV
  have ho := r218_rg hV hx.1
  have e1 : cutS q s r x k = put2 s (cutA q s r x) (r218 s x) x k := by
    unfold cutS log2
    split
    · simp only [upI]
      grind (splits := 40)
    · rfl
  rw [e1, put_rd (by omega) ho (by omega)]
  exact cutA_rd (by omega) (by omega) (by omega)
theorem out_step {b : Int} {q s : Int → Int} (hV : Val b q s) {p : Int} (h : r47 s p ≠ -1) : Out s (stepS q s p) := by
  have h := p_next hV h
  exact out_cut hV ⟨by omega, by omega⟩ ⟨by omega, by omega⟩
theorem out_fill {b : Int} {q s : Int → Int} (hV : Val b q s) (p : Int) : Out s (fillS q s p) ∧ 0 ≤ fillN q s p ∧ fillN q s p ≤ 144 := by
  have h : ∀ k : Nat, k ≤ 144 → (∀ c, itx (fillF q p) s 0 k = .inl c → Val b q c ∧ Out s c) ∧ (∀ c, itx (fillF q p) s 0 k = .inr c → Out s c.1 ∧ 0 ≤ c.2 ∧ c.2 ≤ 144) := by
    intro k
    induction k with
    | zero => exact fun _ => ⟨fun c h => by cases h; exact ⟨hV, Out.rfl⟩, fun c h => by cases h⟩
    | succ k ih =>
      intro hk
      rw [itx]
      split
      · next c e =>
        obtain ⟨h1, h2⟩ := (ih (by omega)).1 c e
        unfold fillF
        split
        · exact ⟨fun c' h => (by cases h), fun c' h => by cases h; exact ⟨h2, by show 0 ≤ 0 + (k : Int); omega, by show 0 + (k : Int) ≤ 144; omega⟩⟩
        · next hn => exact ⟨fun c' h => by cases h; exact ⟨(V_step h1 hn).1, h2.trans (out_step h1 hn)⟩, fun c' h => (by cases h)⟩
      · next c e => exact ⟨fun c' h => (by cases h), fun c' h => by cases h; exact (ih (by omega)).2 c e⟩
  unfold fillS fillN fillX
  cases e : itx (fillF q p) s 0 144 with
  | inl c => exact ⟨((h 144 (by omega)).1 c e).2, by show (0 : Int) ≤ 144; omega, by show (144 : Int) ≤ 144; omega⟩
  | inr c => exact (h 144 (by omega)).2 c e
theorem out_pat {b : Int} {q s : Int → Int} {p r : Int} (hV : Val b q s) (hp : 0 ≤ p ∧ p < q 1) (hr : 0 ≤ r ∧ r < s 3) (h : r37 q s p r ≠ -1) (hw : r39 q s p ≠ 0) : Out s (patS q s p r) := by
  have hq := Q_10 (V_q hV) hp.1 hp.2
  have key : ∀ k : Nat, (k : Int) ≤ q (10 + p) → Out s (itv (patF q p r) (s, 0) 0 k).1 := by
    intro k
    induction k with
    | zero => exact fun _ => Out.rfl
    | succ k ih =>
      intro hk
      have hi := pat_inv hV hp hr h hw k (by omega)
      have hx := Q_16 (V_q hV) (i := (k : Int)) hp.1 hp.2 (by omega) (by omega)
      have h3 := hi.2.2.2.1
      refine (ih (by omega)).trans ?_
      show Out _ (cutS q (itv (patF q p r) (s, 0) 0 k).1 r (q (16 + ((6 * p) + (0 + (k : Int))))))
      rw [Int.zero_add]
      exact out_cut hi.1 ⟨hr.1, by omega⟩ hx
  exact key _ (by omega)
theorem out_pfX {b : Int} {q s : Int → Int} {p : Int} (hp : 0 ≤ p ∧ p < q 1) {a : (Int → Int) × Int} (hA : Aft b q s a) (ho : Out s a.1) : Out s (pfX q p a).1 ∧ a.2 ≤ (pfX q p a).2 ∧ (pfX q p a).2 ≤ a.2 + 864 := by
  have key : ∀ k : Nat, (∀ c, itx (pfF q p) a 0 k = .inl c → Out s c.1 ∧ a.2 ≤ c.2 ∧ c.2 ≤ a.2 + 6 * k) ∧ (∀ c, itx (pfF q p) a 0 k = .inr c → Out s c.1 ∧ a.2 ≤ c.2 ∧ c.2 ≤ a.2 + 6 * k) := by
    intro k
    induction k with
    | zero => exact ⟨fun c h => by cases h; exact ⟨ho, by omega, by omega⟩, fun c h => by cases h⟩
    | succ k ih =>
      rw [itx]
      split
      · next c e =>
        have h1 := ih.1 c e
        have hA1 := ((pf_inv hp hA k).1 c e).1
        unfold pfF
        split
        · exact ⟨fun c' h => (by cases h), fun c' h => by cases h; exact ⟨h1.1, by omega, by omega⟩⟩
        · next hw =>
          split
          · exact ⟨fun c' h => (by cases h), fun c' h => by cases h; exact ⟨h1.1, by omega, by omega⟩⟩
          · next h38 =>
            have h := p_38 hA1.1 h38
            have hq := Q_10 (V_q hA1.1) hp.1 hp.2
            refine ⟨fun c' h' => ?_, fun c' h' => (by cases h')⟩
            cases h'
            exact ⟨h1.1.trans (out_pat hA1.1 hp ⟨h.1, h.2.1⟩ h.2.2 hw), by show a.2 ≤ c.2 + q (10 + p); omega, by show c.2 + q (10 + p) ≤ _; omega⟩
      · next c e => exact ⟨fun c' h => (by cases h), fun c' h => by cases h; have := ih.2 c e; exact ⟨this.1, by omega, by omega⟩⟩
  unfold pfX
  cases e : itx (pfF q p) a 0 144 with
  | inl c => exact (key 144).1 c e
  | inr c => exact (key 144).2 c e
theorem out_pf {b : Int} {q s : Int → Int} (hV : Val b q s) : Out s (pfS q s) ∧ 0 ≤ pfN q s ∧ pfN q s ≤ 5184 := by
  have y := Q_1 (V_q hV)
  have h := itv_inv (f := pfX q) (a0 := (s, 0)) (lo := 0) (fun i a => Aft b q s a ∧ Out s a.1 ∧ 0 ≤ a.2 ∧ a.2 ≤ 864 * i) ⟨⟨hV, rfl, rfl, by show s 11 = s 11 + 0; omega⟩, Out.rfl, by show (0 : Int) ≤ 0; omega, by show (0 : Int) ≤ 864 * 0; omega⟩ (q 1).toNat (fun i a h0 h1 h2 => by
    have h3 := out_pfX ⟨h0, by omega⟩ h2.1 h2.2.1
    exact ⟨pfX_aft ⟨h0, by omega⟩ h2.1, h3.1, by omega, by omega⟩)
  refine ⟨h.2.1, h.2.2.1, ?_⟩
  have := h.2.2.2
  unfold pfN pfL
  omega
theorem out_ful {b : Int} {q s : Int → Int} (hV : Val b q s) (p : Int) : Out s (fulS q s p) ∧ 0 ≤ fulN q s p ∧ fulN q s p ≤ 5400 := by
  unfold fulS fulN
  by_cases hp : p = 3
  · rw [if_pos hp, if_pos hp]
    have h1 := out_pf hV
    have h2 := out_fill (pf_aft hV).1 1
    exact ⟨h1.1.trans h2.1, by have := h2.2.1; have : 0 ≤ fillN q (pfS q s) 1 := h2.2.1; omega, by have : fillN q (pfS q s) 1 ≤ 144 := h2.2.2; omega⟩
  · rw [if_neg hp, if_neg hp]
    have h2 := out_fill hV p
    exact ⟨h2.1, h2.2.1, by omega⟩
theorem out_scr {q s : Int → Int} {r : Int} (hr : 0 ≤ r ∧ r < 80) : Out s (scrA q s r) := by
  intro k hk
  unfold scrA
  simp only [upI]
  grind (splits := 40)
theorem V_mono {b b' : Int} {q s : Int → Int} (hV : Val b q s) (h : b ≤ b' ∧ b' ≤ 1000000) : Val b' q s := by
  have hb := V_b hV
  exact ⟨by omega, ⟨hV.2.1.1, by have := hV.2.1.2; omega⟩, hV.2.2.1, hV.2.2.2.1, hV.2.2.2.2.1, hV.2.2.2.2.2.1, hV.2.2.2.2.2.2.1, hV.2.2.2.2.2.2.2.1, hV.2.2.2.2.2.2.2.2.1, fun l h0 h1 => by have := hV.2.2.2.2.2.2.2.2.2.1 l h0 h1; omega, hV.2.2.2.2.2.2.2.2.2.2⟩
theorem V_rnd {b : Int} {q s : Int → Int} (hV : Val b q s) {v : Int} (hv : 0 ≤ v ∧ v ≤ b) : Val b q (upI s 0 v) := by
  have y3 := V_3 hV
  have y4 := V_4 hV
  have hk' : ∀ j : Int, j ≠ 0 → upI s 0 v j = s j := fun j hj => upI_ne hj
  refine ⟨hV.1, by rw [upI_eq]; exact hv, by rw [hk' _ (by omega)]; exact V_1 hV, by rw [hk' _ (by omega)]; exact V_2 hV, by rw [hk' _ (by omega)]; exact y3, by rw [hk' _ (by omega)]; exact y4, by rw [hk' _ (by omega)]; exact V_5 hV, ?_, ?_, ?_, V_q hV⟩
  · intro i h0 h1
    rw [hk' _ (by omega)] at h1
    have hi := hV.2.2.2.2.2.2.2.1 i h0 h1
    unfold RodV at hi ⊢
    rw [hk' _ (by omega), hk' _ (by omega), hk' _ (by omega), hk' _ (by omega)]
    exact hi
  · intro o h0 h1
    rw [hk' _ (by omega)] at h1
    have hi := hV.2.2.2.2.2.2.2.2.1 o h0 h1
    unfold OrdV at hi ⊢
    rw [hk' _ (by omega), hk' _ (by omega), hk' _ (by omega), hk' _ (by omega), hk' _ (by omega), hk' _ (by omega), hk' _ (by omega), hk' _ (by omega)]
    exact hi
  · intro l h0 h1
    rw [hk' _ (by omega)]
    exact hV.2.2.2.2.2.2.2.2.2.1 l h0 h1
theorem endF_lo {q t : Int → Int} {r c k : Int} (hr : 0 ≤ r ∧ r < 80) (hk : k ≠ 8 ∧ k ≠ 9 ∧ (k < 14 ∨ 414 ≤ k)) : (endF q r (t, c)).1 k = t k := by
  have e : ∀ u : Int → Int, upI u (334 + r) 0 k = u k := fun u => upI_ne (by omega)
  have e2 : scrA q t r k = t k := by unfold scrA; simp only [upI]; grind (splits := 40)
  unfold endF
  dsimp only
  split
  · split
    · split
      · exact (e _).trans e2
      · exact e t
    · exact e t
  · exact e t
theorem end_aft {b : Int} {q s : Int → Int} (hV : Val b q s) (hb : b + 1 ≤ 1000000) : Val (b + 1) q (endS q s) ∧ Out s (endS q s) ∧ endS q s 3 = s 3 ∧ endS q s 4 = s 4 ∧ (∀ k : Int, 414 ≤ k → k < 542 → endS q s k = s k) := by
  have y3 := V_3 hV
  have h := itv_inv (f := endF q) (a0 := (s, 0)) (lo := 0) (fun i a => Val b q a.1 ∧ Out s a.1 ∧ a.1 3 = s 3 ∧ a.1 4 = s 4 ∧ a.1 0 = s 0 ∧ (∀ k : Int, 414 ≤ k → k < 542 → a.1 k = s k)) ⟨hV, Out.rfl, rfl, rfl, rfl, fun _ _ _ => rfl⟩ (s 3).toNat (fun i a h0 h1 h2 => by
    obtain ⟨t, c⟩ := a
    obtain ⟨g1, g2, g3, g4, g5, g6⟩ := h2
    dsimp only at *
    have hi : 0 ≤ i ∧ i < 80 := by omega
    refine ⟨V_endF g1 ⟨h0, by omega⟩, fun k hk => ?_, ?_, ?_, ?_, fun k h0 h1 => ?_⟩
    · rw [endF_lo hi (by omega)]; exact g2 k hk
    · rw [endF_lo hi (by omega)]; exact g3
    · rw [endF_lo hi (by omega)]; exact g4
    · rw [endF_lo hi (by omega)]; exact g5
    · rw [endF_lo hi (by omega)]; exact g6 k h0 h1)
  have e : ∀ k : Int, k ≠ 0 → endS q s k = (endL q s).1 k := fun k hk => upI_ne hk
  obtain ⟨g1, g2, g3, g4, g5, g6⟩ := h
  refine ⟨V_rnd (V_mono g1 ⟨by omega, hb⟩) ?_, fun k hk => (e k (by omega)).trans (g2 k hk), (e 3 (by omega)).trans g3, (e 4 (by omega)).trans g4, fun k h0 h1 => (e k (by omega)).trans (g6 k h0 h1)⟩
  have h0 := hV.2.1
  have : (endL q s).1 0 = s 0 := g5
  omega
theorem out_add {s : Int → Int} {k l : Int} (h : 0 ≤ s 3 ∧ s 3 < 80) : Out s (addT s k l) := by
  intro j hj
  unfold addT
  simp only [upI]
  grind (splits := 40)
theorem add_lo {s : Int → Int} {k l j : Int} (h : 0 ≤ s 3 ∧ s 3 < 80) (hj : j ≠ 3 ∧ (j < 14 ∨ 414 ≤ j)) : addT s k l j = s j := by
  unfold addT
  simp only [upI]
  grind (splits := 40)
/-- two rows that are the same but for what purchases cost -/
def Ag (s t : Int → Int) : Prop := ∀ k : Int, k ≠ 6 → s k = t k
theorem ag_23 {s t : Int → Int} (h : Ag s t) : r23 s = r23 t := by
  unfold r23 k23
  rw [h 3 (by omega)]
  refine itv_eq (fun i a => -1 ≤ a ∧ a < i) ⟨by omega, by omega⟩ _ (fun i a h0 h1 h2 => ?_)
  have e1 := h (94 + i) (by omega)
  have e2 := h (94 + a) (by omega)
  unfold f23
  grind
theorem ag_24 {s t : Int → Int} (h : Ag s t) (x : Int) : r24 s x = r24 t x := by
  unfold r24 k24
  rw [h 4 (by omega)]
  refine itv_eq (fun i a => -1 ≤ a ∧ a < i) ⟨by omega, by omega⟩ _ (fun i a h0 h1 h2 => ?_)
  have e1 := h (414 + (8 * i)) (by omega)
  have e2 := h ((414 + (8 * i)) + 4) (by omega)
  have e3 := h ((414 + (8 * i)) + 3) (by omega)
  have e4 := h ((414 + (8 * a)) + 3) (by omega)
  unfold f24
  rw [e1, e2, e3, e4]
  refine ⟨rfl, ?_⟩
  grind
theorem ag_27 {s t : Int → Int} (h : Ag s t) (x : Int) : r27 s x = r27 t x := by
  unfold r27 k27
  rw [h 4 (by omega)]
  refine itv_eq (fun _ _ => True) trivial _ (fun i a h0 h1 h2 => ?_)
  have e1 := h (414 + (8 * i)) (by omega)
  have e2 := h ((414 + (8 * i)) + 4) (by omega)
  unfold f27
  rw [e1, e2]
  exact ⟨rfl, trivial⟩
theorem ag_34 {s t : Int → Int} (h : Ag s t) (x p : Int) : r34 s x p = r34 t x p := by
  unfold r34 k34
  rw [h 3 (by omega)]
  refine itv_eq (fun i a => -1 ≤ a ∧ a < i) ⟨by omega, by omega⟩ _ (fun i a h0 h1 h2 => ?_)
  have e1 := h (94 + i) (by omega)
  have e2 := h (94 + a) (by omega)
  unfold f34
  rw [e1, e2]
  refine ⟨rfl, ?_⟩
  grind (splits := 40)
theorem ag_218 {s t : Int → Int} (h : Ag s t) (x : Int) : r218 s x = r218 t x := by
  unfold r218 k218
  rw [h 4 (by omega)]
  refine itv_eq (fun i a => -1 ≤ a ∧ a < i) ⟨by omega, by omega⟩ _ (fun i a h0 h1 h2 => ?_)
  have e1 := h (414 + (8 * i)) (by omega)
  have e2 := h ((414 + (8 * i)) + 4) (by omega)
  have e3 := h ((414 + (8 * i)) + 3) (by omega)
  have e4 := h ((414 + (8 * a)) + 3) (by omega)
  unfold f218
  rw [e1, e2, e3, e4]
  refine ⟨rfl, ?_⟩
  grind (splits := 40)
theorem ag_20 {s t : Int → Int} (h : Ag s t) : r20 s = r20 t := by
  unfold r20 k20
  rw [h 4 (by omega)]
  refine itv_eq (fun _ _ => True) trivial _ (fun i a h0 h1 h2 => ?_)
  unfold f20
  rw [h ((414 + (8 * i)) + 4) (by omega)]
  exact ⟨rfl, trivial⟩
theorem rg_23 {s : Int → Int} : -1 ≤ r23 s := by
  have h := p_23 (s := s) (s 3).toNat
  unfold r23 k23
  omega
theorem rg_24 {s : Int → Int} {x : Int} : -1 ≤ r24 s x := (itv_inv (f := f24 s x) (a0 := -1) (lo := 0) (fun i a => -1 ≤ a ∧ a < i) ⟨by omega, by omega⟩ (s 4).toNat (fun i a h0 h1 h2 => by
  unfold f24
  grind)).1
theorem rg_218 {s : Int → Int} {x : Int} : -1 ≤ r218 s x := (itv_inv (f := f218 s x) (a0 := -1) (lo := 0) (fun i a => -1 ≤ a ∧ a < i) ⟨by omega, by omega⟩ (s 4).toNat (fun i a h0 h1 h2 => by
  unfold f218
  grind (splits := 40))).1
theorem rg_34 {s : Int → Int} {x p : Int} : -1 ≤ r34 s x p := (itv_inv (f := f34 s x p) (a0 := -1) (lo := 0) (fun i a => -1 ≤ a ∧ a < i) ⟨by omega, by omega⟩ (s 3).toNat (fun i a h0 h1 h2 => by
  unfold f34
  grind (splits := 40))).1
theorem ag_47 {s t : Int → Int} (h : Ag s t) (p : Int) : r47 s p = r47 t p := by
  have h1 := rg_23 (s := t)
  have h2 := rg_24 (s := t) (x := t (94 + r23 t))
  unfold r47
  rw [ag_23 h, h (94 + r23 t) (by omega), ag_24 h, ag_27 h, h (414 + (8 * r24 t (t (94 + r23 t)))) (by omega)]
theorem ag_cut {q s t : Int → Int} (h : Ag s t) {r x : Int} (hr : 0 ≤ r) (hx : 1 ≤ x) : Ag (cutS q s r x) (cutS q t r x) := by
  intro k hk
  have ho := rg_218 (s := t) (x := x)
  have eA : ∀ j : Int, j ≠ 6 → cutA q s r x j = cutA q t r x j := by
    intro j hj
    have e : lftS s r x = lftS t r x := by unfold lftS; rw [h (94 + r) (by omega), h 1 (by omega)]
    unfold cutA
    rw [e, h 7 (by omega), h 9 (by omega), h (94 + r) (by omega), h (14 + r) (by omega), h (254 + r) (by omega), h 11 (by omega), h 13 (by omega)]
    simp only [upI, h j hj]
  have eP : ∀ j : Int, j ≠ 6 → put2 s (cutA q s r x) (r218 t x) x j = put2 t (cutA q t r x) (r218 t x) x j := by
    intro j hj
    unfold put2
    split
    · simp only [upI, eA j hj, h (542 + x) (by omega)]
    · simp only [give2, upI, eA j hj, h ((414 + (8 * r218 t x)) + 4) (by omega), h ((414 + (8 * r218 t x)) + 3) (by omega), h ((414 + (8 * r218 t x)) + 6) (by omega), h ((414 + (8 * r218 t x)) + 5) (by omega), h ((414 + (8 * r218 t x)) + 2) (by omega), h 0 (by omega), h 10 (by omega), h 12 (by omega)]
  unfold cutS log2
  rw [ag_218 h, h 5 (by omega), h 0 (by omega)]
  split
  · simp only [upI, eP k hk]
  · exact eP k hk
theorem ag_step {b : Int} {q s t : Int → Int} (hV : Val b q t) (h : Ag s t) {p : Int} (hn : r47 t p ≠ -1) : Ag (stepS q s p) (stepS q t p) := by
  have hn := p_next hV hn
  unfold stepS
  rw [ag_47 h, ag_34 h]
  exact ag_cut h (by omega) (by omega)
theorem ag_fill {b : Int} {q s t : Int → Int} (hV : Val b q t) (h : Ag s t) (p : Int) : Ag (fillS q s p) (fillS q t p) ∧ fillN q s p = fillN q t p := by
  have key : ∀ k : Nat, (∃ a c, itx (fillF q p) s 0 k = .inl a ∧ itx (fillF q p) t 0 k = .inl c ∧ Ag a c ∧ Val b q c) ∨ (∃ a c i, itx (fillF q p) s 0 k = .inr (a, i) ∧ itx (fillF q p) t 0 k = .inr (c, i) ∧ Ag a c) := by
    intro k
    induction k with
    | zero => exact Or.inl ⟨s, t, rfl, rfl, h, hV⟩
    | succ k ih =>
      rw [itx, itx]
      rcases ih with ⟨a, c, e1, e2, h1, h2⟩ | ⟨a, c, i, e1, e2, h1⟩
      · rw [e1, e2]
        show (∃ a' c', fillF q p _ a = _ ∧ fillF q p _ c = _ ∧ _) ∨ (∃ a' c' i, fillF q p _ a = _ ∧ fillF q p _ c = _ ∧ _)
        unfold fillF
        rw [ag_47 h1]
        by_cases hn : r47 c p = -1
        · exact Or.inr ⟨a, c, _, by rw [if_pos hn], by rw [if_pos hn], h1⟩
        · exact Or.inl ⟨stepS q a p, stepS q c p, by rw [if_neg hn], by rw [if_neg hn], ag_step h2 h1 hn, (V_step h2 hn).1⟩
      · rw [e1, e2]
        exact Or.inr ⟨a, c, i, rfl, rfl, h1⟩
  unfold fillS fillN fillX
  rcases key 144 with ⟨a, c, e1, e2, h1, h2⟩ | ⟨a, c, i, e1, e2, h1⟩
  · rw [e1, e2]
    exact ⟨h1, rfl⟩
  · rw [e1, e2]
    exact ⟨h1, rfl⟩
theorem ag_add {s t : Int → Int} (h : Ag s t) (k l : Int) : Ag (addT s k l) (addT t k l) := by
  intro j hj
  simp only [addT, upI, h 3 (by omega), h j hj]
theorem ag_up {s t : Int → Int} (h : Ag s t) (v : Int) : Ag (upI s 6 v) t := fun k hk => (upI_ne hk).trans (h k hk)
theorem ag_end {q s t : Int → Int} (h : Ag s t) : Ag (endS q s) (endS q t) := by
  have h' := itv_congr (f := endF q) (f' := endF q) (a0 := (s, 0)) (b0 := (t, 0)) (lo := 0) (fun _ a c => Ag a.1 c.1 ∧ a.2 = c.2) ⟨h, rfl⟩ (t 3).toNat (fun i a c h0 h1 h2 => by
    obtain ⟨a, n⟩ := a
    obtain ⟨c, m⟩ := c
    obtain ⟨h2, h3⟩ := h2
    dsimp only at *
    subst h3
    have eS : ∀ j : Int, j ≠ 6 → scrA q a i j = scrA q c i j := by
      intro j hj
      simp only [scrA, upI, h2 8 (by omega), h2 9 (by omega), h2 (94 + i) (by omega), h2 (14 + i) (by omega), h2 j hj]
    have e1 : ∀ u v : Int → Int, Ag u v → Ag (upI u (334 + i) 0) (upI v (334 + i) 0) := fun u v huv k hk => by simp only [upI, huv k hk]
    unfold endF
    dsimp only
    simp only [h2 (174 + i) (by omega), h2 (334 + i) (by omega), h2 (94 + i) (by omega), h2 2 (by omega)]
    split
    · split
      · split
        · exact ⟨e1 _ _ eS, rfl⟩
        · exact ⟨e1 _ _ h2, rfl⟩
      · exact ⟨e1 _ _ h2, rfl⟩
    · exact ⟨e1 _ _ h2, rfl⟩)
  intro k hk
  unfold endS endL
  rw [h 3 (by omega)]
  simp only [upI, h'.1 0 (by omega), h'.1 k hk]

