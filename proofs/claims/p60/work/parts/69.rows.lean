/-! ROWS OF LENGTHS (by program, wip/p60/gen) -/
theorem rf_one {b x : Int} {q s f : Int → Int} (hV : Val b q s) (hf : f 0 = x) (hx : 1 ≤ x) {k : Int} : rfP s f 1 k ↔ s (174 + k) = 0 ∧ x ≤ s (94 + k) := by
  have y1 := V_1 hV
  have e : lfY s f 1 k = lfF s f (0 + ((0 : Nat) : Int)) (if s (174 + k) = 0 then s (94 + k) else -1) := rfl
  unfold rfP
  rw [e]
  unfold lfF
  rw [show (0 : Int) + ((0 : Nat) : Int) = 0 from rfl, hf]
  by_cases h : s (174 + k) = 0
  · rw [if_pos h]
    split <;> omega
  · rw [if_neg h, if_pos (by omega)]
    omega
theorem rf_213 {b x p : Int} {q s f : Int → Int} (hV : Val b q s) (hf : f 0 = x) (hx : 1 ≤ x) (hp : 0 ≤ p ∧ p ≤ 2) : Fst (rfP s f 1) (rfK s p) 0 (s 3) (r213 s x p) := by
  have y3 := V_3 hV
  have h := itv_inv (f := f213 s x p) (a0 := -1) (lo := 0) (fun i a => 0 ≤ i ∧ Fst (rfP s f 1) (rfK s p) 0 i a) ⟨by omega, Fst.nil (by omega)⟩ (s 3).toNat (fun i a h0 h1 hF => ⟨by omega, ?_⟩)
  · rw [show (0 : Int) + (((s 3).toNat : Nat) : Int) = s 3 by omega] at h
    exact h.2
  · have hF := hF.2
    have hP := rf_one (k := i) hV hf hx
    unfold f213
    split
    · exact hF.skip (fun hp => by have := hP.1 hp; omega)
    · split
      · exact hF.skip (fun hp => by have := hP.1 hp; omega)
      · have hPi : rfP s f 1 i := hP.2 (by omega)
        split
        · next c => exact hF.take (Int.le_refl 0) h0 hPi (Or.inl c)
        · next c =>
          split
          · split
            · exact hF.keep c (by unfold rfK; (repeat' split) <;> omega)
            · split
              · exact hF.keep c (by unfold rfK; (repeat' split) <;> omega)
              · exact hF.take (Int.le_refl 0) h0 hPi (Or.inr (by unfold rfK; (repeat' split) <;> omega))
          · split
            · exact hF.take (Int.le_refl 0) h0 hPi (Or.inr (by unfold rfK; (repeat' split) <;> omega))
            · exact hF.keep c (by unfold rfK; (repeat' split) <;> omega)
theorem rf_34 {b x p : Int} {q s f : Int → Int} (hV : Val b q s) (hf : f 0 = x) (hx : 1 ≤ x) (hp : 0 ≤ p ∧ p ≤ 2) : Fst (rfP s f 1) (rfK s p) 0 (s 3) (r34 s x p) := by
  rw [← e_213 hV hx p]
  exact rf_213 hV hf hx hp
/-- the lengths of a pattern -/
def ptF (q : Int → Int) (p : Int) : Int → Int := fun i => q (16 + ((6 * p) + i))
theorem ptV {q : Int → Int} (hQ : ValQ q) {p : Int} (hp : 0 ≤ p ∧ p < q 1) : RowV (q (10 + p)) (ptF q p) := ⟨by have := Q_10 hQ hp.1 hp.2; omega, fun i i0 i1 => Q_16 hQ hp.1 hp.2 i0 i1⟩
theorem lf_itx {s q : Int → Int} {p a0 : Int} (h0 : -1 ≤ a0) (h1 : 0 ≤ s 1) : ∀ n : Nat, (∀ i : Int, 0 ≤ i → i < n → 1 ≤ ptF q p i) → -1 ≤ itv (lfF s (ptF q p)) a0 0 n ∧ (match itx (fh222 s q p) a0 0 n with
    | .inl a => itv (lfF s (ptF q p)) a0 0 n = a
    | .inr r => r = -1 ∧ itv (lfF s (ptF q p)) a0 0 n = -1) := by
  intro n
  induction n with
  | zero => exact fun _ => ⟨h0, rfl⟩
  | succ n ih =>
    intro hf
    have ih := ih (fun i i0 i1 => hf i i0 (by omega))
    have hfn := hf (0 + (n : Int)) (by omega) (by omega)
    have e1 : itv (lfF s (ptF q p)) a0 0 (n + 1) = lfF s (ptF q p) (0 + (n : Int)) (itv (lfF s (ptF q p)) a0 0 n) := rfl
    have ef : ptF q p (0 + (n : Int)) = q (16 + ((6 * p) + (0 + (n : Int)))) := rfl
    refine ⟨by rw [e1]; unfold lfF; split <;> omega, ?_⟩
    rw [e1, itx]
    obtain ⟨ih0, ih1⟩ := ih
    split at ih1
    · next a ha =>
      rw [ha]
      dsimp only
      rw [ih1] at ih0 ⊢
      unfold fh222 lfF
      rw [ef] at hfn ⊢
      by_cases c1 : a = -1
      · rw [if_pos c1, if_pos (by omega)]
        exact ⟨c1, rfl⟩
      · rw [if_neg c1]
        by_cases c2 : q (16 + ((6 * p) + (0 + (n : Int)))) ≤ a
        · rw [if_pos c2, if_neg (by omega)]
        · rw [if_neg c2, if_pos (by omega)]
    · next r hr =>
      rw [hr]
      dsimp only
      refine ⟨ih1.1, ?_⟩
      rw [ih1.2]
      unfold lfF
      rw [if_pos (by omega)]
theorem lf_222 {b : Int} {q s : Int → Int} (hV : Val b q s) {p k : Int} (hp : 0 ≤ p ∧ p < q 1) (hk : 0 ≤ k ∧ k < s 3) : lfY s (ptF q p) (q (10 + p)) k = r37 q s p k := by
  rw [← e_222 hV hp hk]
  have y1 := V_1 hV
  have z := V_d1 hV hk.1 hk.2
  have hQ := V_q hV
  have z10 := Q_10 hQ hp.1 hp.2
  have key : ∀ a0 : Int, -1 ≤ a0 → itv (lfF s (ptF q p)) a0 0 (q (10 + p)).toNat = rh222 s q p a0 := fun a0 h0 => by
    have h := (lf_itx (q := q) (p := p) h0 y1.1 (q (10 + p)).toNat (fun i i0 i1 => (Q_16 hQ hp.1 hp.2 i0 (by omega)).1)).2
    unfold rh222
    split at h
    · next a ha => rw [ha, h]; rfl
    · next r hr => rw [hr, h.2, h.1]; rfl
  unfold lfY r222
  by_cases c : s (174 + k) = 0
  · rw [if_pos c, if_neg (by omega)]
    exact key _ (by omega)
  · rw [if_neg c, if_pos c]
    exact key _ (by omega)
theorem rf_38 {b p : Int} {q s : Int → Int} (hV : Val b q s) (hp : 0 ≤ p ∧ p < q 1) : Fst (rfP s (ptF q p) (q (10 + p))) (rfK s 1) 0 (s 3) (r38 q s p) := by
  have y3 := V_3 hV
  have hQ := V_q hV
  have h := itv_inv (f := f38 q s p) (a0 := -1) (lo := 0) (fun i a => 0 ≤ i ∧ Fst (rfP s (ptF q p) (q (10 + p))) (rfK s 1) 0 i a) ⟨by omega, Fst.nil (by omega)⟩ (s 3).toNat (fun i a h0 h1 hF => ⟨by omega, ?_⟩)
  · rw [show (0 : Int) + (((s 3).toNat : Nat) : Int) = s 3 by omega] at h
    exact h.2
  · have hF := hF.2
    have hl := lf_222 hV hp (k := i) ⟨h0, by omega⟩
    have hrg := lfY_rg hV (ptV hQ hp) (k := i) ⟨h0, by omega⟩
    rw [hl] at hrg
    unfold f38
    split
    · next c => exact hF.skip (fun hp => by unfold rfP at hp; rw [hl] at hp; omega)
    · next c =>
      have hPi : rfP s (ptF q p) (q (10 + p)) i := by unfold rfP; rw [hl]; omega
      split
      · next c2 => exact hF.take (Int.le_refl 0) h0 hPi (Or.inl c2)
      · next c2 =>
        split
        · exact hF.keep c2 (by unfold rfK; rw [if_pos rfl, if_pos rfl]; omega)
        · exact hF.take (Int.le_refl 0) h0 hPi (Or.inr (by unfold rfK; rw [if_pos rfl, if_pos rfl]; omega))
theorem Yd.ip {g : AG} {M : AM} {O : Nat} {A : YA} {s q : Int → Int} {p : Int} (h : Yd g M O A s q) (p0 : 0 ≤ p) (p1 : p < q 1) : IA g M (A.P p) (q (10 + p)) (ptF q p) := h.ia p0 p1
/-! which patterns are wanted -/
theorem w39_1 {s q : Int → Int} {p : Int} : r39 q s p = 0 ∨ r39 q s p = 1 := by
  unfold r39
  have h : ∀ n : Nat, ∀ r : Int, itx (f39 q s p) 0 0 n = .inr r → r = 0 := by
    intro n
    induction n with
    | zero => intro r h; cases h
    | succ n ih =>
      intro r h
      rw [itx] at h
      split at h
      · unfold f39 at h
        split at h
        · cases h
        · cases h; rfl
      · next r' hr => cases h; exact ih r hr
  cases e : itx (f39 q s p) 0 0 (q (10 + p)).toNat with
  | inl a => exact Or.inr rfl
  | inr r => exact Or.inl (h _ r e)
theorem w39_all {s q : Int → Int} {p : Int} (h : ∀ k : Int, 0 ≤ k → k < q (10 + p) → r40 q p (q (16 + ((6 * p) + k))) ≤ r22 s (q (16 + ((6 * p) + k)))) : r39 q s p = 1 := by
  unfold r39
  have hn : ∀ n : Nat, (n : Int) ≤ q (10 + p) → ∃ a, itx (f39 q s p) 0 0 n = .inl a := by
    intro n
    induction n with
    | zero => exact fun _ => ⟨0, rfl⟩
    | succ n ih =>
      intro hn
      obtain ⟨a, ha⟩ := ih (by omega)
      refine ⟨a, ?_⟩
      rw [itx, ha]
      show f39 q s p (0 + (n : Int)) a = .inl a
      unfold f39
      exact if_pos (h _ (by omega) (by omega))
  by_cases c : 0 ≤ q (10 + p)
  · obtain ⟨a, ha⟩ := hn (q (10 + p)).toNat (by omega)
    rw [ha]
    rfl
  · rw [show (q (10 + p)).toNat = 0 by omega]
    rfl
/-- counted from the first on: enough of each as it comes is enough of all -/
theorem cnt_all {s q : Int → Int} {p : Int} : ∀ m : Nat, (∀ j : Nat, j < m → cntS q p (q (16 + ((6 * p) + (j : Int)))) (j + 1) ≤ r22 s (q (16 + ((6 * p) + (j : Int))))) → ∀ k : Nat, k < m → cntS q p (q (16 + ((6 * p) + (k : Int)))) m ≤ r22 s (q (16 + ((6 * p) + (k : Int)))) := by
  intro m
  induction m with
  | zero => intro _ k hk; omega
  | succ m ih =>
    intro h k hk
    by_cases e : q (16 + ((6 * p) + (m : Int))) = q (16 + ((6 * p) + (k : Int)))
    · rw [← e]
      exact h m (by omega)
    · rw [cnt_succ, if_neg e, Int.add_zero]
      refine ih (fun j hj => h j (by omega)) k ?_
      rcases (show k < m ∨ k = m by omega) with h1 | h1
      · exact h1
      · subst h1; exact absurd rfl e
def wnI (s q : Int → Int) (p : Int) (i : Nat) : Prop := ∀ j : Nat, j < i → cntS q p (q (16 + ((6 * p) + (j : Int)))) (j + 1) ≤ r22 s (q (16 + ((6 * p) + (j : Int))))
theorem w39_iff {s q : Int → Int} {p : Int} (h0 : 0 ≤ q (10 + p)) : r39 q s p = 1 ↔ wnI s q p (q (10 + p)).toNat := by
  constructor
  · intro h j hj
    have h1 := want_of (s := s) (q := q) (p := p) (by omega) (k := (j : Int)) ⟨by omega, by omega⟩
    have h2 := cnt_mono (q := q) (p := p) (y := q (16 + ((6 * p) + (j : Int)))) (j := j + 1) (k := (q (10 + p)).toNat) (by omega)
    have h3 : r40 q p (q (16 + ((6 * p) + (j : Int)))) = cntS q p (q (16 + ((6 * p) + (j : Int)))) (q (10 + p)).toNat := rfl
    omega
  · intro h
    refine w39_all (fun k k0 k1 => ?_)
    have h1 := cnt_all _ h k.toNat (by omega)
    rw [show ((k.toNat : Nat) : Int) = k by omega] at h1
    exact h1
