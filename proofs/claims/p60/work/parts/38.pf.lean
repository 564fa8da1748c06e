/-! FILLING BY PATTERNS: what is wanted, what holds of a filling -/
theorem e_227 {s q : Int → Int} {p : Int} : r227 s q p = r39 q s p := rfl
theorem lack_of {b : Int} {q s : Int → Int} (hV : Val b q s) {r x y : Int} (hr : 0 ≤ r ∧ r < s 3) (hx : 1 ≤ x) (h : r218 s x ≠ -1) : r22 (cutS q s r x) y = r22 s y - (if x = y then 1 else 0) := by
  have y3 := V_3 hV
  have y4 := V_4 hV
  have hp := p_218b hV hx
  have e4 := cut_13 (q := q) hV hr hx (k := 4) (by omega)
  unfold r22 k22
  rw [e4]
  have h' := itv_congr (f := f22 (cutS q s r x) y) (f' := f22 s y) (a0 := 0) (b0 := 0) (lo := 0) (fun i a c => a = c - (if x = y ∧ r218 s x < i then 1 else 0)) (by rw [if_neg (by omega)]; rfl) (s 4).toNat (fun i a c h0 h1 h2 => by
    have e1 : cutS q s r x (414 + (8 * i)) = s (414 + (8 * i)) := by
      rw [cut_ord (V_5 hV).1 (show 0 ≤ r ∧ r < 80 by omega) hx (by omega), if_neg h]
      grind (splits := 40)
    have e2 : cutS q s r x ((414 + (8 * i)) + 4) = if i = r218 s x then s ((414 + (8 * i)) + 4) - 1 else s ((414 + (8 * i)) + 4) := by
      rw [cut_ord (V_5 hV).1 (show 0 ≤ r ∧ r < 80 by omega) hx (by omega), if_neg h]
      grind (splits := 40)
    unfold f22
    rw [e1, e2]
    grind (splits := 40))
  rw [h']
  by_cases hxy : x = y
  · rw [if_pos ⟨hxy, by omega⟩, if_pos hxy]
  · rw [if_neg (by omega), if_neg hxy]
theorem lack_has {b : Int} {q s : Int → Int} (hV : Val b q s) {x : Int} (hx : 1 ≤ x) (h : 1 ≤ r22 s x) : r218 s x ≠ -1 := by
  intro hc
  have y4 := V_4 hV
  have h' := itv_inv (f := f22 s x) (a0 := 0) (lo := 0) (fun _ a => a = 0) rfl (s 4).toNat (fun i a h0 h1 h2 => by
    have z := V_o4 hV (i := i) (by omega) (by omega)
    have z2 : 0 < s ((414 + (8 * i)) + 4) → s (414 + (8 * i)) ≠ x := fun hg => p_218n hc hx h0 (by omega) hg
    unfold f22
    grind)
  unfold r22 k22 at h
  omega
theorem want_of {q s : Int → Int} {p : Int} (h : r39 q s p ≠ 0) {k : Int} (hk : 0 ≤ k ∧ k < q (10 + p)) : r40 q p (q (16 + ((6 * p) + k))) ≤ r22 s (q (16 + ((6 * p) + k))) := by
  have h1 : ∀ j : Nat, itx (f39 q s p) 0 0 j = .inl 0 ∨ itx (f39 q s p) 0 0 j = .inr 0 := by
    intro j
    induction j with
    | zero => exact Or.inl rfl
    | succ j ih =>
      rw [itx]
      rcases ih with ih | ih
      · rw [ih]
        show f39 q s p _ 0 = _ ∨ f39 q s p _ 0 = _
        unfold f39
        split
        · exact Or.inl rfl
        · exact Or.inr rfl
      · rw [ih]
        exact Or.inr rfl
  have h2 : ∀ j : Nat, j ≤ (q (10 + p)).toNat → itx (f39 q s p) 0 0 j = .inl 0 := by
    intro j hj
    rcases h1 j with h3 | h3
    · exact h3
    · exact absurd (by unfold r39; rw [itx_out h3 _ hj]; rfl) h
  have h3 := h2 (k.toNat + 1) (by omega)
  rw [itx, h2 k.toNat (by omega)] at h3
  have h4 : f39 q s p (0 + (k.toNat : Int)) 0 = .inl 0 := h3
  rw [Int.zero_add, Int.toNat_of_nonneg hk.1] at h4
  unfold f39 at h4
  split at h4
  · next h5 => exact h5
  · cases h4
def cntS (q : Int → Int) (p y : Int) (k : Nat) : Int := itv (f40 q p y) 0 0 k
theorem cnt_mono {q : Int → Int} {p y : Int} {j k : Nat} (h : j ≤ k) : cntS q p y j ≤ cntS q p y k := by
  induction k with
  | zero => rw [show j = 0 by omega]; exact Int.le_refl _
  | succ k ih =>
    by_cases hj : j = k + 1
    · rw [hj]; exact Int.le_refl _
    · have := ih (by omega)
      show _ ≤ f40 q p y _ (cntS q p y k)
      unfold f40
      split <;> omega
theorem cnt_succ {q : Int → Int} {p y : Int} {k : Nat} : cntS q p y (k + 1) = cntS q p y k + (if q (16 + ((6 * p) + (k : Int))) = y then 1 else 0) := by
  show f40 q p y (0 + (k : Int)) (cntS q p y k) = _
  unfold f40
  rw [Int.zero_add]
  split <;> grind
/-- all pieces of a wanted pattern go to orders -/
theorem pat_inv {b : Int} {q s : Int → Int} {p r : Int} (hV : Val b q s) (hp : 0 ≤ p ∧ p < q 1) (hr : 0 ≤ r ∧ r < s 3) (h : r37 q s p r ≠ -1) (hw : r39 q s p ≠ 0) : ∀ k : Nat, (k : Int) ≤ q (10 + p) →
    Val b q (itv (patF q p r) (s, 0) 0 k).1 ∧ itx (f37 q s p) (s (94 + r)) 0 k = .inl ((itv (patF q p r) (s, 0) 0 k).1 (94 + r)) ∧ (itv (patF q p r) (s, 0) 0 k).1 1 = s 1 ∧ (itv (patF q p r) (s, 0) 0 k).1 3 = s 3 ∧ (itv (patF q p r) (s, 0) 0 k).1 4 = s 4 ∧ (∀ y : Int, r22 (itv (patF q p r) (s, 0) 0 k).1 y = r22 s y - cntS q p y k) ∧ r20 (itv (patF q p r) (s, 0) 0 k).1 = r20 s - k ∧ (itv (patF q p r) (s, 0) 0 k).1 11 = s 11 + k := by
  intro k
  induction k with
  | zero => exact fun _ => ⟨hV, rfl, rfl, rfl, rfl, fun y => by show _ = _ - (0 : Int); rw [Int.sub_zero]; rfl, by show r20 s = _; omega, by show s 11 = _; omega⟩
  | succ k ih =>
    intro hk
    obtain ⟨i1, i2, i3, i4, i5, i6, i7, i8⟩ := ih (by omega)
    have es : itv (patF q p r) (s, 0) 0 (k + 1) = patF q p r (0 + (k : Int)) (itv (patF q p r) (s, 0) 0 k) := rfl
    rw [Int.zero_add] at es
    rw [es]
    generalize itv (patF q p r) (s, 0) 0 k = a at *
    obtain ⟨t, c⟩ := a
    dsimp only at *
    have hx := Q_16 (V_q hV) (i := (k : Int)) hp.1 hp.2 (by omega) (by omega)
    have hf := pfit (k := (k : Int)) h ⟨by omega, by omega⟩ (by rw [Int.toNat_natCast]; exact i2)
    rw [show ((k : Int) + 1).toNat = k + 1 by omega] at hf
    have hb := V_b hV
    have h218 : r218 t (q (16 + ((6 * p) + (k : Int)))) ≠ -1 := by
      refine lack_has i1 hx.1 ?_
      rw [i6]
      have h1 := want_of hw (k := (k : Int)) ⟨by omega, by omega⟩
      have h2 : r40 q p (q (16 + ((6 * p) + (k : Int)))) = cntS q p (q (16 + ((6 * p) + (k : Int)))) (q (10 + p)).toNat := rfl
      have h3 := cnt_mono (q := q) (p := p) (y := q (16 + ((6 * p) + (k : Int)))) (j := k + 1) (k := (q (10 + p)).toNat) (by omega)
      rw [cnt_succ, if_pos rfl] at h3
      omega
    have e : (patF q p r (k : Int) (t, c)).1 = cutS q t r (q (16 + ((6 * p) + (k : Int)))) := rfl
    rw [e]
    have hr' : 0 ≤ r ∧ r < t 3 := ⟨hr.1, by omega⟩
    refine ⟨V_cut i1 hr' ⟨hx.1, hf.1⟩ ⟨by omega, by omega⟩ (fun h9 => absurd h9 h218), ?_, ?_, ?_, ?_, ?_, ?_, ?_⟩
    · rw [hf.2, cut_94 i1 hr' hx.1, i3]
    · rw [cut_13 i1 hr' hx.1 (by omega)]; exact i3
    · rw [cut_13 i1 hr' hx.1 (by omega)]; exact i4
    · rw [cut_13 i1 hr' hx.1 (by omega)]; exact i5
    · intro y
      rw [lack_of i1 hr' hx.1 h218, i6, cnt_succ]
      omega
    · rw [p_lack i1 hr' hx.1 h218, i7]
      omega
    · rw [cut_11 i1 hr' hx.1, i8]
      omega
theorem pat_all {b : Int} {q s : Int → Int} {p r : Int} (hV : Val b q s) (hp : 0 ≤ p ∧ p < q 1) (hr : 0 ≤ r ∧ r < s 3) (h : r37 q s p r ≠ -1) (hw : r39 q s p ≠ 0) : Val b q (patS q s p r) ∧ (patS q s p r) 3 = s 3 ∧ (patS q s p r) 4 = s 4 ∧ r20 (patS q s p r) = r20 s - q (10 + p) ∧ (patS q s p r) 11 = s 11 + q (10 + p) := by
  have hq := Q_10 (V_q hV) hp.1 hp.2
  have h1 := pat_inv hV hp hr h hw (q (10 + p)).toNat (by omega)
  rw [Int.toNat_of_nonneg (by omega)] at h1
  exact ⟨h1.1, h1.2.2.2.1, h1.2.2.2.2.1, h1.2.2.2.2.2.2.1, h1.2.2.2.2.2.2.2⟩
/-- the rod that a pattern is cut from -/
theorem p_38 {b : Int} {q s : Int → Int} (hV : Val b q s) {p : Int} (h : r38 q s p ≠ -1) : 0 ≤ r38 q s p ∧ r38 q s p < s 3 ∧ r37 q s p (r38 q s p) ≠ -1 := by
  have y3 := V_3 hV
  have h' := itv_inv (f := f38 q s p) (a0 := -1) (lo := 0) (fun i a => a = -1 ∨ (0 ≤ a ∧ a < i ∧ r37 q s p a ≠ -1)) (Or.inl rfl) (s 3).toNat (fun i a h0 h1 h2 => by
    unfold f38
    grind)
  unfold r38 k38 at *
  generalize itv (f38 q s p) (-1) 0 (s 3).toNat = a at *
  rcases h' with h' | h'
  · exact absurd h' h
  · exact ⟨h'.1, by omega, h'.2.2⟩
def pfF (q : Int → Int) (p : Int) (_ : Int) (a : (Int → Int) × Int) : ((Int → Int) × Int) ⊕ ((Int → Int) × Int) := if r39 q a.1 p = 0 then .inr a else if r38 q a.1 p = (-1) then .inr a else .inl (patS q a.1 p (r38 q a.1 p), a.2 + q (10 + p))
def pfX (q : Int → Int) (p : Int) (a : (Int → Int) × Int) : (Int → Int) × Int := itr (itx (pfF q p) a 0 144) (fun a => a)
def pfL (q s : Int → Int) : (Int → Int) × Int := itv (pfX q) (s, 0) 0 (q 1).toNat
def pfS (q s : Int → Int) : Int → Int := (pfL q s).1
def pfN (q s : Int → Int) : Int := (pfL q s).2
/-- what holds of a state behind some pieces -/
def Aft (b : Int) (q s : Int → Int) (a : (Int → Int) × Int) : Prop := Val b q a.1 ∧ a.1 3 = s 3 ∧ a.1 4 = s 4 ∧ a.1 11 = s 11 + a.2
theorem pf_go {b : Int} {q s : Int → Int} {p : Int} {a : (Int → Int) × Int} (hA : Aft b q s a) (hp : 0 ≤ p ∧ p < q 1) (hw : r39 q a.1 p ≠ 0) (h38 : r38 q a.1 p ≠ -1) : Aft b q s (patS q a.1 p (r38 q a.1 p), a.2 + q (10 + p)) ∧ r20 (patS q a.1 p (r38 q a.1 p)) = r20 a.1 - q (10 + p) ∧ 1 ≤ q (10 + p) := by
  have h := p_38 hA.1 h38
  have hq := Q_10 (V_q hA.1) hp.1 hp.2
  obtain ⟨h1, h2, h3, h4, h5⟩ := pat_all hA.1 hp ⟨h.1, h.2.1⟩ h.2.2 hw
  exact ⟨⟨h1, h2.trans hA.2.1, h3.trans hA.2.2.1, by show patS q a.1 p (r38 q a.1 p) 11 = _; rw [h5, hA.2.2.2]; show _ = s 11 + (a.2 + q (10 + p)); omega⟩, h4, hq.1⟩
theorem pf_inv {b : Int} {q s : Int → Int} {p : Int} (hp : 0 ≤ p ∧ p < q 1) {a : (Int → Int) × Int} (hA : Aft b q s a) : ∀ k : Nat, (∀ c, itx (pfF q p) a 0 k = .inl c → Aft b q s c ∧ r20 c.1 ≤ r20 a.1 - k) ∧ (∀ c, itx (pfF q p) a 0 k = .inr c → Aft b q s c) := by
  intro k
  induction k with
  | zero => exact ⟨fun c h => by cases h; exact ⟨hA, by omega⟩, fun c h => by cases h⟩
  | succ k ih =>
    rw [itx]
    split
    · next c e =>
      obtain ⟨h1, h2⟩ := ih.1 c e
      unfold pfF
      split
      · exact ⟨fun c' h => (by cases h), fun c' h => by cases h; exact h1⟩
      · next hw =>
        split
        · exact ⟨fun c' h => (by cases h), fun c' h => by cases h; exact h1⟩
        · next h38 =>
          obtain ⟨g1, g2, g3⟩ := pf_go h1 hp hw h38
          exact ⟨fun c' h => by cases h; exact ⟨g1, by show r20 (patS q c.1 p (r38 q c.1 p)) ≤ _; omega⟩, fun c' h => (by cases h)⟩
    · next c e => exact ⟨fun c' h => (by cases h), fun c' h => by cases h; exact ih.2 c e⟩
theorem pfX_aft {b : Int} {q s : Int → Int} {p : Int} (hp : 0 ≤ p ∧ p < q 1) {a : (Int → Int) × Int} (hA : Aft b q s a) : Aft b q s (pfX q p a) := by
  have h := pf_inv hp hA 144
  unfold pfX
  cases e : itx (pfF q p) a 0 144 with
  | inl c => exact (h.1 c e).1
  | inr c => exact h.2 c e
/-- the loop over one pattern ends where neither rod nor wish is left -/
theorem pf_end {b : Int} {q s : Int → Int} {p i : Int} {a0 a : (Int → Int) × Int} (hi : 0 ≤ i ∧ i ≤ 144) (e : itx (pfF q p) a0 0 i.toNat = .inl a) (h : r39 q a.1 p = 0 ∨ r38 q a.1 p = -1) : pfX q p a0 = a := by
  unfold pfX
  by_cases h4 : i = 144
  · subst h4
    rw [show (144 : Nat) = (144 : Int).toNat from rfl, e]
    rfl
  · have e1 : itx (pfF q p) a0 0 (i.toNat + 1) = .inr a := by
      rw [itx, e]
      show pfF q p _ a = _
      unfold pfF
      rcases h with h | h
      · rw [if_pos h]
      · split
        · rfl
        · rfl
    rw [itx_out e1 144 (by omega)]
    rfl
theorem pf_step {q : Int → Int} {p i : Int} {a0 a : (Int → Int) × Int} (hi : 0 ≤ i) (e : itx (pfF q p) a0 0 i.toNat = .inl a) (hw : r39 q a.1 p ≠ 0) (h38 : r38 q a.1 p ≠ -1) : itx (pfF q p) a0 0 (i + 1).toNat = .inl (patS q a.1 p (r38 q a.1 p), a.2 + q (10 + p)) := by
  rw [show (i + 1).toNat = i.toNat + 1 by omega, itx, e]
  show pfF q p _ a = _
  unfold pfF
  rw [if_neg hw, if_neg h38]
theorem pf_aft {b : Int} {q s : Int → Int} (hV : Val b q s) : Aft b q s (pfL q s) := by
  have y := Q_1 (V_q hV)
  exact itv_inv (f := pfX q) (a0 := (s, 0)) (lo := 0) (fun _ a => Aft b q s a) ⟨hV, rfl, rfl, by show s 11 = s 11 + 0; omega⟩ (q 1).toNat (fun i a h0 h1 h2 => pfX_aft ⟨h0, by omega⟩ h2)
theorem fill_aft {b : Int} {q s : Int → Int} (hV : Val b q s) (p : Int) : Aft b q s (fillX q s p) := by
  have h : ∀ k : Nat, (∀ c, itx (fillF q p) s 0 k = .inl c → Aft b q s (c, (k : Int))) ∧ (∀ c, itx (fillF q p) s 0 k = .inr c → Aft b q s c) := by
    intro k
    induction k with
    | zero => exact ⟨fun c h => by cases h; exact ⟨hV, rfl, rfl, by show s 11 = s 11 + ((0 : Nat) : Int); omega⟩, fun c h => by cases h⟩
    | succ k ih =>
      rw [itx]
      split
      · next c e =>
        obtain ⟨h1, h2, h3, h4⟩ := ih.1 c e
        unfold fillF
        split
        · exact ⟨fun c' h => (by cases h), fun c' h => by cases h; rw [Int.zero_add]; exact ⟨h1, h2, h3, h4⟩⟩
        · next hn =>
          have g := V_step h1 hn
          refine ⟨fun c' h => ?_, fun c' h => (by cases h)⟩
          cases h
          refine ⟨g.1, g.2.2.1.trans h2, g.2.2.2.trans h3, ?_⟩
          show stepS q c p 11 = s 11 + ((k + 1 : Nat) : Int)
          have h4' : c 11 = s 11 + (k : Int) := h4
          have h5 : stepS q c p 11 = c 11 + 1 := step_11 h1 hn
          rw [h5, h4']
          omega
      · next c e => exact ⟨fun c' h => (by cases h), fun c' h => by cases h; exact ih.2 c e⟩
  unfold fillX
  cases e : itx (fillF q p) s 0 144 with
  | inl c => exact (h 144).1 c e
  | inr c => exact (h 144).2 c e
/-- to fill by a policy -/
def fulS (q s : Int → Int) (p : Int) : Int → Int := if p = 3 then fillS q (pfS q s) 1 else fillS q s p
def fulN (q s : Int → Int) (p : Int) : Int := if p = 3 then pfN q s + fillN q (pfS q s) 1 else fillN q s p
theorem ful_aft {b : Int} {q s : Int → Int} (hV : Val b q s) (p : Int) : Aft b q s (fulS q s p, fulN q s p) := by
  unfold fulS fulN
  by_cases hp : p = 3
  · rw [if_pos hp, if_pos hp]
    obtain ⟨h1, h2, h3, h4⟩ := pf_aft hV
    obtain ⟨g1, g2, g3, g4⟩ := fill_aft (q := q) (s := (pfL q s).1) h1 1
    refine ⟨g1, g2.trans h2, g3.trans h3, ?_⟩
    show (fillX q (pfL q s).1 1).1 11 = s 11 + ((pfL q s).2 + (fillX q (pfL q s).1 1).2)
    rw [g4, h4]
    omega
  · rw [if_neg hp, if_neg hp]
    exact fill_aft hV p

