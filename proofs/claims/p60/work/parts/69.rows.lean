/-! ROWS OF LENGTHS (by program, wip/p60/gen) -/
theorem rt201 : am_rt 201 = some .boolean := by decide +kernel
theorem o201 : am_oc 201 = 17 := by decide +kernel
theorem m17_182 : am_mlk 17 182 0 202 = true := by decide +kernel
theorem na202 : am_na 202 = 1 := by decide +kernel
theorem nl202 : am_nL 202 = 4 := by decide +kernel
theorem pd202 : ∀ a0 a1 : AV, am_pad 202 [a0, a1] = [a0, a1, aU, aU] := by intros; unfold am_pad; rw [nl202]; rfl
theorem ln202 : 2 ≤ am_nL 202 := by rw [nl202]; decide
theorem rf_one {b x : Int} {q s f : Int → Int} (hV : Val b q s) (hf : f 0 = x) (hx : 1 ≤ x) {k : Int} : rfP s f 1 k ↔ s (174 + k) = 0 ∧ x ≤ s (94 + k) := by
  have y1 := V_1 hV
  have e : lfY s f 1 k = lfF s f (0 + ((0 : Nat) : Int)) (if s (174 + k) = 0 then s (94 + k) else -1) := rfl
  unfold rfP
  rw [e]
  unfold lfF
  rw [show (0 : Int) + ((0 : Nat) : Int) = 0 from rfl, hf]
  by_cases h : s (174 + k) = 0
  · rw [if_pos h]
    split <;> omega
  · rw [if_neg h, if_pos (by omega)]
    omega
theorem rf_213 {b x p : Int} {q s f : Int → Int} (hV : Val b q s) (hf : f 0 = x) (hx : 1 ≤ x) (hp : 0 ≤ p ∧ p ≤ 2) : Fst (rfP s f 1) (rfK s p) 0 (s 3) (r213 s x p) := by
  have y3 := V_3 hV
  have h := itv_inv (f := f213 s x p) (a0 := -1) (lo := 0) (fun i a => 0 ≤ i ∧ Fst (rfP s f 1) (rfK s p) 0 i a) ⟨by omega, Fst.nil (by omega)⟩ (s 3).toNat (fun i a h0 h1 hF => ⟨by omega, ?_⟩)
  · rw [show (0 : Int) + (((s 3).toNat : Nat) : Int) = s 3 by omega] at h
    exact h.2
  · have hF := hF.2
    have hP := rf_one (k := i) hV hf hx
    unfold f213
    split
    · exact hF.skip (fun hp => by have := hP.1 hp; omega)
    · split
      · exact hF.skip (fun hp => by have := hP.1 hp; omega)
      · have hPi : rfP s f 1 i := hP.2 (by omega)
        split
        · next c => exact hF.take (Int.le_refl 0) h0 hPi (Or.inl c)
        · next c =>
          split
          · split
            · exact hF.keep c (by unfold rfK; (repeat' split) <;> omega)
            · split
              · exact hF.keep c (by unfold rfK; (repeat' split) <;> omega)
              · exact hF.take (Int.le_refl 0) h0 hPi (Or.inr (by unfold rfK; (repeat' split) <;> omega))
          · split
            · exact hF.take (Int.le_refl 0) h0 hPi (Or.inr (by unfold rfK; (repeat' split) <;> omega))
            · exact hF.keep c (by unfold rfK; (repeat' split) <;> omega)
theorem rf_34 {b x p : Int} {q s f : Int → Int} (hV : Val b q s) (hf : f 0 = x) (hx : 1 ≤ x) (hp : 0 ≤ p ∧ p ≤ 2) : Fst (rfP s f 1) (rfK s p) 0 (s 3) (r34 s x p) := by
  rw [← e_213 hV hx p]
  exact rf_213 hV hf hx hp
/-- the lengths of a pattern -/
def ptF (q : Int → Int) (p : Int) : Int → Int := fun i => q (16 + ((6 * p) + i))
theorem ptV {q : Int → Int} (hQ : ValQ q) {p : Int} (hp : 0 ≤ p ∧ p < q 1) : RowV (q (10 + p)) (ptF q p) := ⟨by have := Q_10 hQ hp.1 hp.2; omega, fun i i0 i1 => Q_16 hQ hp.1 hp.2 i0 i1⟩
theorem lf_itx {s q : Int → Int} {p a0 : Int} (h0 : -1 ≤ a0) (h1 : 0 ≤ s 1) : ∀ n : Nat, (∀ i : Int, 0 ≤ i → i < n → 1 ≤ ptF q p i) → -1 ≤ itv (lfF s (ptF q p)) a0 0 n ∧ (match itx (fh222 s q p) a0 0 n with
    | .inl a => itv (lfF s (ptF q p)) a0 0 n = a
    | .inr r => r = -1 ∧ itv (lfF s (ptF q p)) a0 0 n = -1) := by
  intro n
  induction n with
  | zero => exact fun _ => ⟨h0, rfl⟩
  | succ n ih =>
    intro hf
    have ih := ih (fun i i0 i1 => hf i i0 (by omega))
    have hfn := hf (0 + (n : Int)) (by omega) (by omega)
    have e1 : itv (lfF s (ptF q p)) a0 0 (n + 1) = lfF s (ptF q p) (0 + (n : Int)) (itv (lfF s (ptF q p)) a0 0 n) := rfl
    have ef : ptF q p (0 + (n : Int)) = q (16 + ((6 * p) + (0 + (n : Int)))) := rfl
    refine ⟨by rw [e1]; unfold lfF; split <;> omega, ?_⟩
    rw [e1, itx]
    obtain ⟨ih0, ih1⟩ := ih
    split at ih1
    · next a ha =>
      rw [ha]
      dsimp only
      rw [ih1] at ih0 ⊢
      unfold fh222 lfF
      rw [ef] at hfn ⊢
      by_cases c1 : a = -1
      · rw [if_pos c1, if_pos (by omega)]
        exact ⟨c1, rfl⟩
      · rw [if_neg c1]
        by_cases c2 : q (16 + ((6 * p) + (0 + (n : Int)))) ≤ a
        · rw [if_pos c2, if_neg (by omega)]
        · rw [if_neg c2, if_pos (by omega)]
    · next r hr =>
      rw [hr]
      dsimp only
      refine ⟨ih1.1, ?_⟩
      rw [ih1.2]
      unfold lfF
      rw [if_pos (by omega)]
theorem lf_222 {b : Int} {q s : Int → Int} (hV : Val b q s) {p k : Int} (hp : 0 ≤ p ∧ p < q 1) (hk : 0 ≤ k ∧ k < s 3) : lfY s (ptF q p) (q (10 + p)) k = r37 q s p k := by
  rw [← e_222 hV hp hk]
  have y1 := V_1 hV
  have z := V_d1 hV hk.1 hk.2
  have hQ := V_q hV
  have z10 := Q_10 hQ hp.1 hp.2
  have key : ∀ a0 : Int, -1 ≤ a0 → itv (lfF s (ptF q p)) a0 0 (q (10 + p)).toNat = rh222 s q p a0 := fun a0 h0 => by
    have h := (lf_itx (q := q) (p := p) h0 y1.1 (q (10 + p)).toNat (fun i i0 i1 => (Q_16 hQ hp.1 hp.2 i0 (by omega)).1)).2
    unfold rh222
    split at h
    · next a ha => rw [ha, h]; rfl
    · next r hr => rw [hr, h.2, h.1]; rfl
  unfold lfY r222
  by_cases c : s (174 + k) = 0
  · rw [if_pos c, if_neg (by omega)]
    exact key _ (by omega)
  · rw [if_neg c, if_pos c]
    exact key _ (by omega)
theorem rf_38 {b p : Int} {q s : Int → Int} (hV : Val b q s) (hp : 0 ≤ p ∧ p < q 1) : Fst (rfP s (ptF q p) (q (10 + p))) (rfK s 1) 0 (s 3) (r38 q s p) := by
  have y3 := V_3 hV
  have hQ := V_q hV
  have h := itv_inv (f := f38 q s p) (a0 := -1) (lo := 0) (fun i a => 0 ≤ i ∧ Fst (rfP s (ptF q p) (q (10 + p))) (rfK s 1) 0 i a) ⟨by omega, Fst.nil (by omega)⟩ (s 3).toNat (fun i a h0 h1 hF => ⟨by omega, ?_⟩)
  · rw [show (0 : Int) + (((s 3).toNat : Nat) : Int) = s 3 by omega] at h
    exact h.2
  · have hF := hF.2
    have hl := lf_222 hV hp (k := i) ⟨h0, by omega⟩
    have hrg := lfY_rg hV (ptV hQ hp) (k := i) ⟨h0, by omega⟩
    rw [hl] at hrg
    unfold f38
    split
    · next c => exact hF.skip (fun hp => by unfold rfP at hp; rw [hl] at hp; omega)
    · next c =>
      have hPi : rfP s (ptF q p) (q (10 + p)) i := by unfold rfP; rw [hl]; omega
      split
      · next c2 => exact hF.take (Int.le_refl 0) h0 hPi (Or.inl c2)
      · next c2 =>
        split
        · exact hF.keep c2 (by unfold rfK; rw [if_pos rfl, if_pos rfl]; omega)
        · exact hF.take (Int.le_refl 0) h0 hPi (Or.inr (by unfold rfK; rw [if_pos rfl, if_pos rfl]; omega))
theorem Yd.ip {g : AG} {M : AM} {O : Nat} {A : YA} {s q : Int → Int} {p : Int} (h : Yd g M O A s q) (p0 : 0 ≤ p) (p1 : p < q 1) : IA g M (A.P p) (q (10 + p)) (ptF q p) := h.ia p0 p1
/-! which patterns are wanted -/
theorem w39_1 {s q : Int → Int} {p : Int} : r39 q s p = 0 ∨ r39 q s p = 1 := by
  unfold r39
  have h : ∀ n : Nat, ∀ r : Int, itx (f39 q s p) 0 0 n = .inr r → r = 0 := by
    intro n
    induction n with
    | zero => intro r h; cases h
    | succ n ih =>
      intro r h
      rw [itx] at h
      split at h
      · unfold f39 at h
        split at h
        · cases h
        · cases h; rfl
      · next r' hr => cases h; exact ih r hr
  cases e : itx (f39 q s p) 0 0 (q (10 + p)).toNat with
  | inl a => exact Or.inr rfl
  | inr r => exact Or.inl (h _ r e)
theorem w39_all {s q : Int → Int} {p : Int} (h : ∀ k : Int, 0 ≤ k → k < q (10 + p) → r40 q p (q (16 + ((6 * p) + k))) ≤ r22 s (q (16 + ((6 * p) + k)))) : r39 q s p = 1 := by
  unfold r39
  have hn : ∀ n : Nat, (n : Int) ≤ q (10 + p) → ∃ a, itx (f39 q s p) 0 0 n = .inl a := by
    intro n
    induction n with
    | zero => exact fun _ => ⟨0, rfl⟩
    | succ n ih =>
      intro hn
      obtain ⟨a, ha⟩ := ih (by omega)
      refine ⟨a, ?_⟩
      rw [itx, ha]
      show f39 q s p (0 + (n : Int)) a = .inl a
      unfold f39
      exact if_pos (h _ (by omega) (by omega))
  by_cases c : 0 ≤ q (10 + p)
  · obtain ⟨a, ha⟩ := hn (q (10 + p)).toNat (by omega)
    rw [ha]
    rfl
  · rw [show (q (10 + p)).toNat = 0 by omega]
    rfl
/-- counted from the first on: enough of each as it comes is enough of all -/
theorem cnt_all {s q : Int → Int} {p : Int} : ∀ m : Nat, (∀ j : Nat, j < m → cntS q p (q (16 + ((6 * p) + (j : Int)))) (j + 1) ≤ r22 s (q (16 + ((6 * p) + (j : Int))))) → ∀ k : Nat, k < m → cntS q p (q (16 + ((6 * p) + (k : Int)))) m ≤ r22 s (q (16 + ((6 * p) + (k : Int)))) := by
  intro m
  induction m with
  | zero => intro _ k hk; omega
  | succ m ih =>
    intro h k hk
    by_cases e : q (16 + ((6 * p) + (m : Int))) = q (16 + ((6 * p) + (k : Int)))
    · rw [← e]
      exact h m (by omega)
    · rw [cnt_succ, if_neg e, Int.add_zero]
      refine ih (fun j hj => h j (by omega)) k ?_
      rcases (show k < m ∨ k = m by omega) with h1 | h1
      · exact h1
      · subst h1; exact absurd rfl e
def wnI (s q : Int → Int) (p : Int) (i : Nat) : Prop := ∀ j : Nat, j < i → cntS q p (q (16 + ((6 * p) + (j : Int)))) (j + 1) ≤ r22 s (q (16 + ((6 * p) + (j : Int))))
theorem w39_iff {s q : Int → Int} {p : Int} (h0 : 0 ≤ q (10 + p)) : r39 q s p = 1 ↔ wnI s q p (q (10 + p)).toNat := by
  constructor
  · intro h j hj
    have h1 := want_of (s := s) (q := q) (p := p) (by omega) (k := (j : Int)) ⟨by omega, by omega⟩
    have h2 := cnt_mono (q := q) (p := p) (y := q (16 + ((6 * p) + (j : Int)))) (j := j + 1) (k := (q (10 + p)).toNat) (by omega)
    have h3 : r40 q p (q (16 + ((6 * p) + (j : Int)))) = cntS q p (q (16 + ((6 * p) + (j : Int)))) (q (10 + p)).toNat := rfl
    omega
  · intro h
    refine w39_all (fun k k0 k1 => ?_)
    have h1 := cnt_all _ h k.toNat (by omega)
    rw [show ((k.toNat : Nat) : Int) = k by omega] at h1
    exact h1
theorem wnI_succ {s q : Int → Int} {p : Int} {i : Nat} : wnI s q p (i + 1) ↔ wnI s q p i ∧ cntS q p (q (16 + ((6 * p) + (i : Int)))) (i + 1) ≤ r22 s (q (16 + ((6 * p) + (i : Int)))) := by
  constructor
  · exact fun h => ⟨fun j hj => h j (by omega), h i (by omega)⟩
  · rintro ⟨h1, h2⟩ j hj
    rcases (show j < i ∨ j = i by omega) with h | h
    · exact h1 j h
    · subst h; exact h2
theorem cnt_rg {q : Int → Int} {p y : Int} : ∀ k : Nat, 0 ≤ cntS q p y k ∧ cntS q p y k ≤ k := by
  intro k
  induction k with
  | zero => exact ⟨Int.le_refl 0, Int.le_refl 0⟩
  | succ k ih => rw [cnt_succ]; split <;> omega
theorem r22_rg {b x : Int} {q s : Int → Int} (hV : Val b q s) : 0 ≤ r22 s x ∧ r22 s x ≤ 144 := by
  have y4 := V_4 hV
  have h := itv_inv (f := f22 s x) (a0 := 0) (lo := 0) (fun i a => 0 ≤ i ∧ 0 ≤ a ∧ a ≤ 9 * i) ⟨by omega, by omega⟩ (s 4).toNat (fun i a h0 h1 hF => ⟨by omega, ?_⟩)
  · have h2 := h.2
    unfold r22 k22
    omega
  · have z := V_o4 hV h0 (by omega)
    unfold f22
    split <;> omega
theorem w39_eq {s q : Int → Int} {p w : Int} (h0 : 0 ≤ q (10 + p)) (hw : (w = 1 ∧ wnI s q p (q (10 + p)).toNat) ∨ (w = 0 ∧ ¬ wnI s q p (q (10 + p)).toNat)) : r39 q s p = w := by
  rcases hw with ⟨h8, h9⟩ | ⟨h8, h9⟩
  · rw [h8]; exact (w39_iff h0).2 h9
  · rcases w39_1 (s := s) (q := q) (p := p) with h | h
    · omega
    · exact absurd ((w39_iff h0).1 h) h9
theorem and1 {x : Int} (h : x = 0 ∨ x = 1) : am_and x 1 = x := by rcases h with rfl | rfl <;> rfl
theorem and0 {x : Int} (h : x = 0 ∨ x = 1) : am_and x 0 = 0 := by rcases h with rfl | rfl <;> rfl
theorem IA.cg {g : AG} {M : AM} {a : Nat} {n : Int} {f h : Int → Int} (hA : IA g M a n f) (e : ∀ j : Int, f j = h j) : IA g M a n h := by rw [← show f = h from funext e]; exact hA
theorem t201 {g : AG} {M : AM} {O : Nat} {A : YA} {s q : Int → Int} {b : Int} {p : Int} (hY : Yd g M O A s q) (hV : Val b q s) (hp : 0 ≤ p ∧ p < q 1) : Ok 1 201 0 [aR 101, aR (A.P p), aU, aU, aU, aU, aU, aU] [] g M (fun o g1 M1 => o = .inl (some (aI (r39 q s p))) ∧ Fr FN 1 201 g M g1 M1) := by
  have hQ := V_q hV
  have y3 := V_3 hV
  have y4 := V_4 hV
  have y5 := V_5 hV
  have yq0 := Q_0 hQ
  have yq1 := Q_1 hQ
  have z10 := Q_10 hQ hp.1 hp.2
  refine ok_sipush (v := 201) (pc' := 3) i201_0 rfl rfl <| ?_
  refine ok_nia (pc' := 5) i201_3 (by decide) rfl (fun xr1 g1 M1 hx1 hn1 hA1 e1 => ?_)
  have hYa1 := Yd.f0 hY e1
  have hl1 : xr1 < 100 + gN g1 := by omega
  refine ok_astoren (pc' := 6) (ls' := [aR 101, aR (A.P p), aR xr1, aU, aU, aU, aU, aU]) i201_5 (bt rfl) rfl rfl <| ok_iconst (pc' := 7) i201_6 rfl <| ok_istoren (pc' := 8) (ls' := [aR 101, aR (A.P p), aR xr1, aI 1, aU, aU, aU, aU]) i201_7 (bt rfl) rfl rfl <| ok_aloadn (pc' := 9) i201_8 rfl rfl <| ok_astore (pc' := 11) (ls' := [aR 101, aR (A.P p), aR xr1, aI 1, aR (A.P p), aU, aU, aU]) i201_9 (bt rfl) rfl rfl <| ok_aload (pc' := 13) i201_11 rfl rfl <| ?_
  have z2 : 1 ≤ q (10 + p) ∧ q (10 + p) ≤ 6 := Q_10 hQ (by omega) (by omega)
  refine ok_arrlen (v := (q (10 + p))) (pc' := 14) i201_13 ((hYa1.gr.pp p (by omega) (by omega)).2.2.1) (by decide) ((hYa1.gr.pp p (by omega) (by omega)).2.2.2) rfl <| ok_istore (pc' := 16) (ls' := [aR 101, aR (A.P p), aR xr1, aI 1, aR (A.P p), aI (q (10 + p)), aU, aU]) i201_14 (bt rfl) rfl rfl <| ok_iconst (pc' := 17) i201_16 rfl <| ok_istore (pc' := 19) (ls' := [aR 101, aR (A.P p), aR xr1, aI 1, aR (A.P p), aI (q (10 + p)), aI 0, aU]) i201_17 (bt rfl) rfl rfl <| ?_
  refine ok_lp (σ := Int × Int) (fun z ls g9 M9 => g9 = g1 ∧ Fr FN 1 201 g M g9 M9 ∧ IA g9 M9 xr1 201 (fun y => cntS q p y z.1.toNat) ∧ (0 ≤ z.1 ∧ z.1 ≤ q (10 + p)) ∧ ((z.2 = 1 ∧ wnI s q p z.1.toNat) ∨ (z.2 = 0 ∧ ¬ wnI s q p z.1.toNat)) ∧ ∃ w7 : AV, am_cat w7 = 1 ∧ ls = [aR 101, aR (A.P p), aR xr1, aI z.2, aR (A.P p), aI (q (10 + p)), aI z.1, w7]) (fun z => (q (10 + p) - z.1).toNat) ?_ (0, 1) _ _ _ ⟨rfl, e1, hA1, by show 0 ≤ (0 : Int) ∧ 0 ≤ q (10 + p); omega, Or.inl ⟨rfl, fun j hj => absurd hj (Nat.not_lt_zero _)⟩, aU, rfl, rfl⟩
  rintro ⟨i, w⟩ ls g9 M9 ⟨rfl, hf, hI, hi, hws, w7, hw7, rfl⟩ ih
  dsimp only at *
  have hY9 := Yd.f0 hY hf
  have hw : w = 0 ∨ w = 1 := by omega
  have z10 := Q_10 hQ hp.1 hp.2
  have hww : 0 ≤ w ∧ w ≤ 1 := by omega
  have hi1 : (i + 1).toNat = i.toNat + 1 := by omega
  have hi2 : ((i.toNat : Nat) : Int) = i := by omega
  obtain ⟨cI, hcI⟩ : ∃ f : Int → Int, f = fun y => cntS q p y i.toNat := ⟨_, rfl⟩
  have hcr : ∀ j : Int, 0 ≤ j → j < 201 → 0 ≤ cI j ∧ cI j ≤ 6 := fun j _ _ => by rw [hcI]; have := cnt_rg (q := q) (p := p) (y := j) i.toNat; dsimp only; omega
  have hc1 : cI (q (16 + ((6 * p) + i))) + 1 = cntS q p (q (16 + ((6 * p) + i))) (i.toNat + 1) := by rw [cnt_succ, hi2, if_pos rfl, hcI]
  rw [← hcI] at hI
  refine ok_iload (pc' := 21) i201_19 rfl rfl <| ok_iload (pc' := 23) i201_21 rfl rfl <| ?_
  refine ok_cge (pc1 := 68) (pc2 := 26) i201_23 (by omega) rfl rfl (fun h1 => ?_) (fun h1 => ?_)
  · refine ok_iloadn (pc' := 69) i201_68 rfl rfl <| ok_iretz i201_69 rt201 (by omega) <| ?_
    rw [show i = q (10 + p) by omega] at hws
    exact ⟨by rw [w39_eq (by omega) hws], hf⟩
  · refine ok_aload (pc' := 28) i201_26 rfl rfl <| ok_iload (pc' := 30) i201_28 rfl rfl <| ?_
    have b2 := (hY9.gr.pp p (by omega) (by omega)).2.2.2
    have z3 : 1 ≤ q (16 + ((6 * p) + i)) ∧ q (16 + ((6 * p) + i)) ≤ 200 := Q_16 hQ (by omega) (by omega) (by omega) (by omega)
    refine ok_iaload (v := (q (16 + ((6 * p) + i)))) (pc' := 31) i201_30 ((hY9.gr.pp p (by omega) (by omega)).2.2.1) (by decide) (rfl) (by omega) ((hY9.mr.pp p (by omega) (by omega) i (by omega) (by omega))) rfl <| ok_istore (pc' := 33) (ls' := [aR 101, aR (A.P p), aR xr1, aI w, aR (A.P p), aI (q (10 + p)), aI i, aI (q (16 + ((6 * p) + i)))]) i201_31 (bt rfl) rfl rfl <| ok_aloadn (pc' := 34) i201_33 rfl rfl <| ok_iload (pc' := 36) i201_34 rfl rfl <| ok_dup2 (pc' := 37) i201_36 ⟨rfl, rfl⟩ rfl <| ?_
    have b4 := hI.2.1
    have z5 : 0 ≤ (cI (q (16 + ((6 * p) + i)))) ∧ (cI (q (16 + ((6 * p) + i)))) ≤ 6 := hcr (q (16 + ((6 * p) + i))) (by omega) (by omega)
    refine ok_iaload (v := (cI (q (16 + ((6 * p) + i))))) (pc' := 38) i201_37 (hI.1) (by decide) (rfl) (by omega) ((hI.2.2 (q (16 + ((6 * p) + i))) (by omega) (by omega))) rfl <| ok_iconst (pc' := 39) i201_38 rfl <| ok_iadd (v := ((cI (q (16 + ((6 * p) + i)))) + 1)) (pc' := 40) i201_39 rfl rfl <| ?_
    have b6 := hI.2.1
    refine ok_iastore (pc' := 41) i201_40 (hI.1) (rfl) (by omega) rfl <| ?_
    have e7 := Fr.up (x := (q (16 + ((6 * p) + i)))) (v := ((cI (q (16 + ((6 * p) + i)))) + 1)) hf (Or.inr (Nat.le_of_eq hx1))
    have hYa7 := Yd.f0 hY e7
    have hA7 := IA.up (x := (q (16 + ((6 * p) + i)))) (v := ((cI (q (16 + ((6 * p) + i)))) + 1)) hI
    refine ok_iloadn (pc' := 42) i201_41 rfl rfl <| ok_aloadn (pc' := 43) i201_42 rfl rfl <| ok_iload (pc' := 45) i201_43 rfl rfl <| ?_
    have b8 := hA7.2.1
    refine ok_iaload (v := ((cI (q (16 + ((6 * p) + i)))) + 1)) (pc' := 46) i201_45 (hA7.1) (by decide) (rfl) (by omega) (((hA7.2.2 (q (16 + ((6 * p) + i))) (by omega) (by omega)).trans upI_eq)) rfl <| ok_aloadn (pc' := 47) i201_46 rfl rfl <| ok_iload (pc' := 49) i201_47 rfl rfl <| ?_
    refine ok_cc i201_49 rfl (cl_v o201 m17_182 na202 rfl rfl (bt rfl) (bt rfl) rfl (by rw [hYa7.gr.ky, o202])) ln202 (pd202 (aR 101) (aI (q (16 + ((6 * p) + i))))) <| (Ok.deep (t202 (x1 := (q (16 + ((6 * p) + i)))) hYa7 hV ⟨by omega, by omega⟩) (by omega)).mono (fun o9 g8 M8 p8 => ?_)
    obtain ⟨rfl, e8, e9⟩ := p8
    rw [e8, e9]
    have z9 : 0 ≤ (r22 s (q (16 + ((6 * p) + i)))) ∧ (r22 s (q (16 + ((6 * p) + i)))) ≤ 144 := r22_rg hV
    refine kt_v (pc' := 52) rfl <| ?_
    refine ok_cgt (pc1 := 59) (pc2 := 55) i201_52 (by omega) rfl rfl (fun h10 => ?_) (fun h10 => ?_)
    · refine ok_iconst (pc' := 60) i201_59 rfl <| ok_iand (v := 0) (pc' := 61) i201_60 (and0 hw) rfl <| ok_istoren (pc' := 62) (ls' := [aR 101, aR (A.P p), aR xr1, aI 0, aR (A.P p), aI (q (10 + p)), aI i, aI (q (16 + ((6 * p) + i)))]) i201_61 (bt rfl) rfl rfl <| ok_iinc (pc' := 65) (v := (i + 1)) (ls' := [aR 101, aR (A.P p), aR xr1, aI 0, aR (A.P p), aI (q (10 + p)), aI (i + 1), aI (q (16 + ((6 * p) + i)))]) i201_62 rfl rfl rfl rfl <| ok_goto (pc' := 19) i201_65 rfl <| ?_
      refine ih (i + 1, 0) _ _ _ (by show (q (10 + p) - (i + 1)).toNat < (q (10 + p) - i).toNat; omega) ⟨rfl, e7, IA.cg hA7 ?_, by show 0 ≤ i + 1 ∧ i + 1 ≤ q (10 + p); omega, ?_, _, rfl, rfl⟩
      · intro y
        show upI cI (q (16 + ((6 * p) + i))) (cI (q (16 + ((6 * p) + i))) + 1) y = cntS q p y (i + 1).toNat
        rw [hi1, cnt_succ, hi2, hcI]
        unfold upI
        by_cases hy : y = (q (16 + ((6 * p) + i)))
        · rw [if_pos hy, if_pos hy.symm, hy]
        · rw [if_neg hy, if_neg (fun h => hy h.symm), Int.add_zero]
      · show (0 = 1 ∧ wnI s q p (i + 1).toNat) ∨ (0 = 0 ∧ ¬ wnI s q p (i + 1).toNat)
        rw [hi1, wnI_succ, hi2, ← hc1]
        rcases hws with ⟨h8, h9⟩ | ⟨h8, h9⟩
        · first | exact Or.inl ⟨by omega, h9, by omega⟩ | exact Or.inr ⟨by omega, fun h => by have := h.2; omega⟩
        · exact Or.inr ⟨by omega, fun h => h9 h.1⟩
    · refine ok_iconst (pc' := 56) i201_55 rfl <| ok_goto (pc' := 60) i201_56 rfl <| ok_iand (v := w) (pc' := 61) i201_60 (and1 hw) rfl <| ok_istoren (pc' := 62) (ls' := [aR 101, aR (A.P p), aR xr1, aI w, aR (A.P p), aI (q (10 + p)), aI i, aI (q (16 + ((6 * p) + i)))]) i201_61 (bt rfl) rfl rfl <| ok_iinc (pc' := 65) (v := (i + 1)) (ls' := [aR 101, aR (A.P p), aR xr1, aI w, aR (A.P p), aI (q (10 + p)), aI (i + 1), aI (q (16 + ((6 * p) + i)))]) i201_62 rfl rfl rfl rfl <| ok_goto (pc' := 19) i201_65 rfl <| ?_
      refine ih (i + 1, w) _ _ _ (by show (q (10 + p) - (i + 1)).toNat < (q (10 + p) - i).toNat; omega) ⟨rfl, e7, IA.cg hA7 ?_, by show 0 ≤ i + 1 ∧ i + 1 ≤ q (10 + p); omega, ?_, _, rfl, rfl⟩
      · intro y
        show upI cI (q (16 + ((6 * p) + i))) (cI (q (16 + ((6 * p) + i))) + 1) y = cntS q p y (i + 1).toNat
        rw [hi1, cnt_succ, hi2, hcI]
        unfold upI
        by_cases hy : y = (q (16 + ((6 * p) + i)))
        · rw [if_pos hy, if_pos hy.symm, hy]
        · rw [if_neg hy, if_neg (fun h => hy h.symm), Int.add_zero]
      · show (w = 1 ∧ wnI s q p (i + 1).toNat) ∨ (w = 0 ∧ ¬ wnI s q p (i + 1).toNat)
        rw [hi1, wnI_succ, hi2, ← hc1]
        rcases hws with ⟨h8, h9⟩ | ⟨h8, h9⟩
        · first | exact Or.inl ⟨by omega, h9, by omega⟩ | exact Or.inr ⟨by omega, fun h => by have := h.2; omega⟩
        · exact Or.inr ⟨by omega, fun h => h9 h.1⟩
