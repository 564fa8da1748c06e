/-! LOOPS that may be left (by program, wip/gen) -/
/-- the same with a way out from within -/
def itx (f : Int → Int → Int ⊕ Int) (a0 lo : Int) : Nat → Int ⊕ Int
  | 0 => .inl a0
  | n + 1 => match itx f a0 lo n with
    | .inl a => f (lo + n) a
    | .inr r => .inr r
def itr (x : Int ⊕ Int) (k : Int → Int) : Int := match x with
  | .inl a => k a
  | .inr r => r
theorem itx_out {f : Int → Int → Int ⊕ Int} {a0 lo r : Int} {k : Nat} (h : itx f a0 lo k = .inr r) : ∀ n, k ≤ n → itx f a0 lo n = .inr r := by
  intro n hn
  induction n with
  | zero => rw [show k = 0 by omega] at h; exact h
  | succ n ih =>
    by_cases hk : k = n + 1
    · rw [← hk]; exact h
    · rw [itx, ih (by omega)]
theorem ok_forx {d mi h : Nat} {g : AG} {M : AM} {Q : AO → AG → AM → Prop} {lo : Int} {n : Nat} {f : Int → Int → Int ⊕ Int} {a0 : Int} (inv : Int → Int → Prop) (L : Int → Int → List AV → Prop) (h0 : inv lo a0)
    (hs : ∀ (i a : Int) (ls : List AV), lo ≤ i → i < lo + n → inv i a → L i a ls → (∀ r, f i a = .inr r → itx f a0 lo n = .inr r) → (∀ a' ls', f i a = .inl a' → inv (i + 1) a' → L (i + 1) a' ls' → Ok d mi h ls' [] g M Q) → Ok d mi h ls [] g M Q)
    (he : ∀ a ls, itx f a0 lo n = .inl a → inv (lo + n) a → L (lo + n) a ls → Ok d mi h ls [] g M Q) : ∀ ls, L lo a0 ls → Ok d mi h ls [] g M Q := by
  have key : ∀ k : Nat, k ≤ n → ∀ a ls, itx f a0 lo (n - k) = .inl a → inv (lo + (n - k : Nat)) a → L (lo + (n - k : Nat)) a ls → Ok d mi h ls [] g M Q := by
    intro k
    induction k with
    | zero => exact fun _ a ls h1 h2 h3 => he a ls h1 h2 h3
    | succ k ih =>
      intro hk a ls h1 h2 h3
      have e : n - k = (n - (k + 1)) + 1 := by omega
      have e2 : itx f a0 lo (n - k) = f (lo + (n - (k + 1) : Nat)) a := by rw [e, itx, h1]
      have e3 : lo + ((n - (k + 1) : Nat) : Int) + 1 = lo + (n - k : Nat) := by omega
      refine hs _ a ls (by omega) (by omega) h2 h3 (fun r hr => itx_out (e2.trans hr) n (by omega)) (fun a' ls' h4 h5 h6 => ?_)
      rw [e3] at h5 h6
      exact ih (by omega) a' ls' (e2.trans h4) h5 h6
  intro ls h
  refine key n (Nat.le_refl _) a0 ls (by rw [Nat.sub_self]; rfl) ?_ ?_
  · rw [Nat.sub_self, show lo + ((0 : Nat) : Int) = lo by omega]; exact h0
  · rw [Nat.sub_self, show lo + ((0 : Nat) : Int) = lo by omega]; exact h
theorem gi4_26 : am_gfi 4 26 4 0 = true := by decide +kernel
theorem o9 : am_oc 9 = 4 := by decide +kernel
theorem rt9 : am_rt 9 = some .boolean := by decide +kernel
theorem gr4_9 : am_gfr 4 9 4 1 = true := by decide +kernel
theorem gr4_15 : am_gfr 4 15 4 2 = true := by decide +kernel
theorem gr8_9 : am_gfr 8 9 8 0 = true := by decide +kernel
theorem o40 : am_oc 40 = 8 := by decide +kernel
theorem gr8_40 : am_gfr 8 40 4 4 = true := by decide +kernel
theorem rt40 : am_rt 40 = some .int := by decide +kernel
theorem gr8_43 : am_gfr 8 43 4 5 = true := by decide +kernel
theorem o39 : am_oc 39 = 8 := by decide +kernel
theorem rt39 : am_rt 39 = some .boolean := by decide +kernel
theorem m8_60 : am_mlk 8 60 0 40 = true := by decide +kernel
theorem na40 : am_na 40 = 2 := by decide +kernel
theorem nl40 : am_nL 40 = 6 := by decide +kernel
theorem pd40 : ∀ a0 a1 a2 : AV, am_pad 40 [a0, a1, a2] = [a0, a1, a2, aU, aU, aU] := by intros; unfold am_pad; rw [nl40]; rfl
theorem ln40 : 3 ≤ am_nL 40 := by rw [nl40]; decide
theorem m8_63 : am_mlk 8 63 0 22 = true := by decide +kernel
theorem na22 : am_na 22 = 1 := by decide +kernel
theorem nl22 : am_nL 22 = 4 := by decide +kernel
theorem pd22 : ∀ a0 a1 : AV, am_pad 22 [a0, a1] = [a0, a1, aU, aU] := by intros; unfold am_pad; rw [nl22]; rfl
theorem ln22 : 2 ≤ am_nL 22 := by rw [nl22]; decide
theorem b9_0 {Q : AO → AG → AM → Prop} {g : AG} {M : AM}  {P : Nat} {x1 x2 : Int}  (hSP : ShPlan g P)  
    (K1 : Ok 0 9 2 [aR P, aI x1, aI x2, aI 0] [] g M Q) :
    Ok 0 9 0 [aR P, aI x1, aI x2, aU] [] g M Q := by
  refine ok_iconst (pc' := 1) i9_0 rfl <| ok_istoren (pc' := 2) (ls' := [aR P, aI x1, aI x2, aI 0]) i9_1 (bt rfl) rfl rfl <| ?_
  exact K1
theorem b9_2 {Q : AO → AG → AM → Prop} {g : AG} {M : AM}  {P : Nat} {x1 x2 x3 : Int}  (hSP : ShPlan g P)  (q0 : 0 ≤ x3) (q1 : -2147483648 ≤ x3 ∧ x3 < 2147483648) (q2 : 0 ≤ M P 0 ∧ M P 0 ≤ 4) (q3 : -2147483648 ≤ x1 ∧ x1 < 2147483648) (q4 : -2147483648 ≤ x2 ∧ x2 < 2147483648) (q5 : x3 < M P 0 → -2147483648 ≤ M (P + 1) x3 ∧ M (P + 1) x3 < 2147483648) (q6 : x3 < M P 0 → -2147483648 ≤ M (P + 2) x3 ∧ M (P + 2) x3 < 2147483648)
    (K2 : (M P 0) ≤ x3 → Q (.inl (some (aI 0))) g M)
    (K4 : x3 < (M P 0) → (M (P + 1) x3) ≠ x1 → Ok 0 9 2 [aR P, aI x1, aI x2, aI (x3 + 1)] [] g M Q)
    (K6 : x3 < (M P 0) → (M (P + 1) x3) = x1 → (M (P + 2) x3) ≠ x2 → Ok 0 9 2 [aR P, aI x1, aI x2, aI (x3 + 1)] [] g M Q)
    (K7 : x3 < (M P 0) → (M (P + 1) x3) = x1 → (M (P + 2) x3) = x2 → Q (.inl (some (aI 1))) g M) :
    Ok 0 9 2 [aR P, aI x1, aI x2, aI x3] [] g M Q := by
  refine ok_iloadn (pc' := 3) i9_2 rfl rfl <| ok_aloadn (pc' := 4) i9_3 rfl rfl <| ok_getfi (v := (M P 0)) (pc' := 7) i9_4 o9 gi4_26 (ShPlan_k0 hSP) rfl rfl <| ?_
  refine ok_cge (pc1 := 38) (pc2 := 10) i9_7 (by clear q5 q6; omega) rfl rfl (fun h1 => ?_) (fun h1 => ?_)
  · refine ok_iconst (pc' := 39) i9_38 rfl <| ok_iretz i9_39 rt9 (by decide) <| ?_
    exact K2 h1
  · refine ok_aloadn (pc' := 11) i9_10 rfl rfl <| ok_getfr (r := (P + 1)) (pc' := 14) i9_11 o9 gr4_9 (ShPlan_k0 hSP) (ShPlan_r1 hSP) rfl <| ok_iloadn (pc' := 15) i9_14 rfl rfl <| ok_iaload (v := (M (P + 1) x3)) (pc' := 16) i9_15 (ShPlan_k1 hSP) (by decide) (ShPlan_l1 hSP) (by have z0 := q5 h1; have z1 := q6 h1; clear q5 q6; omega) rfl rfl <| ok_iloadn (pc' := 17) i9_16 rfl rfl <| ?_
    refine ok_cne (pc1 := 32) (pc2 := 20) i9_17 ⟨(q5 h1).1, (q5 h1).2, q3.1, q3.2⟩ rfl rfl (fun h3 => ?_) (fun h3 => ?_)
    · refine ok_iinc (pc' := 35) (v := (x3 + 1)) (ls' := [aR P, aI x1, aI x2, aI (x3 + 1)]) i9_32 rfl rfl rfl rfl <| ok_goto (pc' := 2) i9_35 rfl <| ?_
      exact K4 h1 h3
    · refine ok_aloadn (pc' := 21) i9_20 rfl rfl <| ok_getfr (r := (P + 2)) (pc' := 24) i9_21 o9 gr4_15 (ShPlan_k0 hSP) (ShPlan_r2 hSP) rfl <| ok_iloadn (pc' := 25) i9_24 rfl rfl <| ok_iaload (v := (M (P + 2) x3)) (pc' := 26) i9_25 (ShPlan_k2 hSP) (by decide) (ShPlan_l2 hSP) (by have z0 := q5 h1; have z1 := q6 h1; clear q5 q6; omega) rfl rfl <| ok_iloadn (pc' := 27) i9_26 rfl rfl <| ?_
      refine ok_cne (pc1 := 32) (pc2 := 30) i9_27 ⟨(q6 h1).1, (q6 h1).2, q4.1, q4.2⟩ rfl rfl (fun h5 => ?_) (fun h5 => ?_)
      · refine ok_iinc (pc' := 35) (v := (x3 + 1)) (ls' := [aR P, aI x1, aI x2, aI (x3 + 1)]) i9_32 rfl rfl rfl rfl <| ok_goto (pc' := 2) i9_35 rfl <| ?_
        exact K6 h1 h3 h5
      · refine ok_iconst (pc' := 31) i9_30 rfl <| ok_iretz i9_31 rt9 (by decide) <| ?_
        exact K7 h1 h3 h5
def f9 (M : AM) (P : Nat) (x1 x2 : Int) (x3 a9 : Int) : Int ⊕ Int := (if (M (P + 1) x3) ≠ x1 then (.inl a9) else (if (M (P + 2) x3) ≠ x2 then (.inl a9) else (.inr 1)))
def r9 (M : AM) (P : Nat) (x1 x2 : Int) : Int := (itr (itx (f9 M P x1 x2) 0 0 (M P 0).toNat) (fun a9 => 0))
theorem t9 {g : AG} {M : AM} {P : Nat} {x1 x2 : Int} (hSP : ShPlan g P) (h0 : 0 ≤ M P 0 ∧ M P 0 ≤ 4) (h1 : -2147483648 ≤ x1 ∧ x1 < 2147483648) (h2 : -2147483648 ≤ x2 ∧ x2 < 2147483648) (h4 : ∀ i : Int, 0 ≤ i → i < M P 0 → -2147483648 ≤ M (P + 1) i ∧ M (P + 1) i < 2147483648) (h5 : ∀ i : Int, 0 ≤ i → i < M P 0 → -2147483648 ≤ M (P + 2) i ∧ M (P + 2) i < 2147483648) :
    Ok 0 9 0 [aR P, aI x1, aI x2, aU] [] g M (Rt (some (aI (r9 M P x1 x2))) g (fun M9 => M9 = M)) := by
  refine b9_0 hSP  ?_
  refine ok_forx (lo := 0) (n := (M P 0).toNat) (f := (f9 M P x1 x2)) (a0 := 0) (fun i a => True) (fun i a ls => ls = [aR P, aI x1, aI x2, aI i]) ?_ ?_ ?_ _ rfl
  · trivial
  · rintro x3 a9 ls g1 g2 hinv rfl hr ih
    have r4 := h4 x3
    have r5 := h5 x3
    refine b9_2 hSP  (by omega) (by omega) (by omega) (by omega) (by omega) (by omega) (by omega) (fun h1 => by omega) (fun h1 h3 => ?_) (fun h1 h3 h5 => ?_) (fun h1 h3 h5 => ?_)
    · have e : f9 M P x1 x2 x3 a9 = (.inl a9) := by unfold f9; rw [if_pos h3]
      exact ih _ _ e trivial rfl
    · have e : f9 M P x1 x2 x3 a9 = (.inl a9) := by unfold f9; rw [if_neg (by omega), if_pos h5]
      exact ih _ _ e trivial rfl
    · have e : f9 M P x1 x2 x3 a9 = (.inr 1) := by unfold f9; rw [if_neg (by omega), if_neg (by omega)]
      exact ⟨by unfold r9; rw [hr _ e]; rfl, rfl, rfl⟩
  · rintro a9 ls hx hinv rfl
    have r4 := h4 (0 + ((M P 0).toNat : Nat))
    have r5 := h5 (0 + ((M P 0).toNat : Nat))
    refine b9_2 hSP  (by omega) (by omega) (by omega) (by omega) (by omega) (by omega) (by omega) (fun h1 => ⟨by unfold r9; rw [hx]; rfl, rfl, rfl⟩) (fun h1 h3 => by omega) (fun h1 h3 h5 => by omega) (fun h1 h3 h5 => by omega)
theorem b40_0 {Q : AO → AG → AM → Prop} {g : AG} {M : AM}  {W P B : Nat} {x1 x2 : Int}  (hSW : ShWorks g W P B) (hSP : ShPlan g P) (hSB : ShState g B)  (q0 : 0 ≤ x1 ∧ x1 < 6)
    (K1 : Ok 0 40 16 [aR W, aI x1, aI x2, aI (M (P + 3) x1), aI 0, aI 0] [] g M Q) :
    Ok 0 40 0 [aR W, aI x1, aI x2, aU, aU, aU] [] g M Q := by
  refine ok_aloadn (pc' := 1) i40_0 rfl rfl <| ok_getfr (r := P) (pc' := 4) i40_1 o40 gr8_9 (ShWorks_k0 hSW) (ShWorks_r0 hSW) rfl <| ok_getfr (r := (P + 3)) (pc' := 7) i40_4 o40 gr8_40 (ShPlan_k0 hSP) (ShPlan_r4 hSP) rfl <| ok_iloadn (pc' := 8) i40_7 rfl rfl <| ok_iaload (v := (M (P + 3) x1)) (pc' := 9) i40_8 (ShPlan_k3 hSP) (by decide) (ShPlan_l3 hSP) (by omega) rfl rfl <| ok_istoren (pc' := 10) (ls' := [aR W, aI x1, aI x2, aI (M (P + 3) x1), aU, aU]) i40_9 (bt rfl) rfl rfl <| ok_iconst (pc' := 11) i40_10 rfl <| ok_istore (pc' := 13) (ls' := [aR W, aI x1, aI x2, aI (M (P + 3) x1), aI 0, aU]) i40_11 (bt rfl) rfl rfl <| ?_
  refine ok_iconst (pc' := 14) i40_13 rfl <| ok_istore (pc' := 16) (ls' := [aR W, aI x1, aI x2, aI (M (P + 3) x1), aI 0, aI 0]) i40_14 (bt rfl) rfl rfl <| ?_
  exact K1
theorem b40_16 {Q : AO → AG → AM → Prop} {g : AG} {M : AM}  {W P B : Nat} {x1 x2 x3 x4 x5 : Int}  (hSW : ShWorks g W P B) (hSP : ShPlan g P) (hSB : ShState g B)  (q0 : 0 ≤ x5) (q1 : -2147483648 ≤ x5 ∧ x5 < 2147483648) (q2 : 0 ≤ x1 ∧ x1 < 6) (q3 : 0 ≤ x3 ∧ x3 ≤ 6) (q4 : -2147483648 ≤ x2 ∧ x2 < 2147483648) (q5 : x5 < x3 → -2147483648 ≤ M (P + 5 + x1.toNat) x5 ∧ M (P + 5 + x1.toNat) x5 < 2147483648)
    (K2 : x3 ≤ x5 → Q (.inl (some (aI x4))) g M)
    (K4 : x5 < x3 → (M (P + 5 + x1.toNat) x5) ≠ x2 → Ok 0 40 16 [aR W, aI x1, aI x2, aI x3, aI x4, aI (x5 + 1)] [] g M Q)
    (K5 : x5 < x3 → (M (P + 5 + x1.toNat) x5) = x2 → Ok 0 40 16 [aR W, aI x1, aI x2, aI x3, aI (x4 + 1), aI (x5 + 1)] [] g M Q) :
    Ok 0 40 16 [aR W, aI x1, aI x2, aI x3, aI x4, aI x5] [] g M Q := by
  refine ok_iload (pc' := 18) i40_16 rfl rfl <| ok_iloadn (pc' := 19) i40_18 rfl rfl <| ?_
  refine ok_cge (pc1 := 47) (pc2 := 22) i40_19 (by clear q5; omega) rfl rfl (fun h1 => ?_) (fun h1 => ?_)
  · refine ok_iload (pc' := 49) i40_47 rfl rfl <| ok_ireti i40_49 rt40 <| ?_
    exact K2 h1
  · refine ok_aloadn (pc' := 23) i40_22 rfl rfl <| ok_getfr (r := P) (pc' := 26) i40_23 o40 gr8_9 (ShWorks_k0 hSW) (ShWorks_r0 hSW) rfl <| ok_getfr (r := (P + 4)) (pc' := 29) i40_26 o40 gr8_43 (ShPlan_k0 hSP) (ShPlan_r5 hSP) rfl <| ok_iloadn (pc' := 30) i40_29 rfl rfl <| ok_aaload (r := (P + 5 + x1.toNat)) (pc' := 31) i40_30 (ShPlan_k4 hSP) (by decide) (ShPlan_l4 hSP) (by have z0 := q5 h1; clear q5; omega) (ShPlan_ev4 hSP (by have z0 := q5 h1; clear q5; omega) (by have z0 := q5 h1; clear q5; omega)) rfl <| ok_iload (pc' := 33) i40_31 rfl rfl <| ok_iaload (v := (M (P + 5 + x1.toNat) x5)) (pc' := 34) i40_33 (ShPlan_kv4 hSP (by have z0 := q5 h1; clear q5; omega) (by have z0 := q5 h1; clear q5; omega)) (by decide) (ShPlan_lv4 hSP (by have z0 := q5 h1; clear q5; omega) (by have z0 := q5 h1; clear q5; omega)) (by have z0 := q5 h1; clear q5; omega) rfl rfl <| ok_iloadn (pc' := 35) i40_34 rfl rfl <| ?_
    refine ok_cne (pc1 := 41) (pc2 := 38) i40_35 ⟨(q5 h1).1, (q5 h1).2, q4.1, q4.2⟩ rfl rfl (fun h3 => ?_) (fun h3 => ?_)
    · refine ok_iinc (pc' := 44) (v := (x5 + 1)) (ls' := [aR W, aI x1, aI x2, aI x3, aI x4, aI (x5 + 1)]) i40_41 rfl rfl rfl rfl <| ok_goto (pc' := 16) i40_44 rfl <| ?_
      exact K4 h1 h3
    · refine ok_iinc (pc' := 41) (v := (x4 + 1)) (ls' := [aR W, aI x1, aI x2, aI x3, aI (x4 + 1), aI x5]) i40_38 rfl rfl rfl rfl <| ok_iinc (pc' := 44) (v := (x5 + 1)) (ls' := [aR W, aI x1, aI x2, aI x3, aI (x4 + 1), aI (x5 + 1)]) i40_41 rfl rfl rfl rfl <| ok_goto (pc' := 16) i40_44 rfl <| ?_
      exact K5 h1 h3
def f40 (M : AM) (W P B : Nat) (x1 x2 x3 : Int) (x5 x4 : Int) : Int := (if (M (P + 5 + x1.toNat) x5) ≠ x2 then x4 else (x4 + 1))
def r40 (M : AM) (W P B : Nat) (x1 x2 : Int) : Int := (itv (f40 M W P B x1 x2 (M (P + 3) x1)) 0 0 (M (P + 3) x1).toNat)
theorem t40 {g : AG} {M : AM} {W P B : Nat} {x1 x2 : Int} (hSW : ShWorks g W P B) (hSP : ShPlan g P) (hSB : ShState g B) (h0 : 0 ≤ x1 ∧ x1 < 6) (h1 : 0 ≤ M (P + 3) x1 ∧ M (P + 3) x1 ≤ 6) (h2 : -2147483648 ≤ x2 ∧ x2 < 2147483648) (h3 : ∀ i : Int, 0 ≤ i → i < M (P + 3) x1 → -2147483648 ≤ M (P + 5 + x1.toNat) i ∧ M (P + 5 + x1.toNat) i < 2147483648) :
    Ok 0 40 0 [aR W, aI x1, aI x2, aU, aU, aU] [] g M (Rt (some (aI (r40 M W P B x1 x2))) g (fun M9 => M9 = M)) := by
  refine b40_0 hSW hSP hSB (by omega) ?_
  refine ok_for (lo := 0) (n := (M (P + 3) x1).toNat) (f := (f40 M W P B x1 x2 (M (P + 3) x1))) (a0 := 0) (fun i a => True) (fun i a ls => ls = [aR W, aI x1, aI x2, aI (M (P + 3) x1), aI a, aI i]) ?_ ?_ ?_ _ rfl
  · trivial
  · rintro x5 x4 ls g1 g2 hinv rfl ih
    have r3 := h3 x5
    refine b40_16 hSW hSP hSB  (by omega) (by omega) (by omega) (by omega) (by omega) (by omega) (fun h1 => by omega) (fun h1 h3 => ?_) (fun h1 h3 => ?_)
    · have e : f40 M W P B x1 x2 (M (P + 3) x1) x5 x4 = x4 := by unfold f40; rw [if_pos h3]
      exact ih _ trivial (by rw [e])
    · have e : f40 M W P B x1 x2 (M (P + 3) x1) x5 x4 = (x4 + 1) := by unfold f40; rw [if_neg (by omega)]
      exact ih _ trivial (by rw [e])
  · rintro ls hinv rfl
    have r3 := h3 (0 + ((M (P + 3) x1).toNat : Nat))
    refine b40_16 hSW hSP hSB  (by omega) (by omega) (by omega) (by omega) (by omega) (by omega) (fun h1 => ⟨rfl, rfl, rfl⟩) (fun h1 h3 => by omega) (fun h1 h3 => by omega)
theorem b39_0 {Q : AO → AG → AM → Prop} {g : AG} {M : AM}  {W P B : Nat} {x1 : Int}  (hSW : ShWorks g W P B) (hSP : ShPlan g P) (hSB : ShState g B)  (q0 : 0 ≤ x1 ∧ x1 < 6)
    (K1 : Ok 1 39 12 [aR W, aI x1, aI (M (P + 3) x1), aI 0, aU] [] g M Q) :
    Ok 1 39 0 [aR W, aI x1, aU, aU, aU] [] g M Q := by
  refine ok_aloadn (pc' := 1) i39_0 rfl rfl <| ok_getfr (r := P) (pc' := 4) i39_1 o39 gr8_9 (ShWorks_k0 hSW) (ShWorks_r0 hSW) rfl <| ok_getfr (r := (P + 3)) (pc' := 7) i39_4 o39 gr8_40 (ShPlan_k0 hSP) (ShPlan_r4 hSP) rfl <| ok_iloadn (pc' := 8) i39_7 rfl rfl <| ok_iaload (v := (M (P + 3) x1)) (pc' := 9) i39_8 (ShPlan_k3 hSP) (by decide) (ShPlan_l3 hSP) (by omega) rfl rfl <| ok_istoren (pc' := 10) (ls' := [aR W, aI x1, aI (M (P + 3) x1), aU, aU]) i39_9 (bt rfl) rfl rfl <| ok_iconst (pc' := 11) i39_10 rfl <| ok_istoren (pc' := 12) (ls' := [aR W, aI x1, aI (M (P + 3) x1), aI 0, aU]) i39_11 (bt rfl) rfl rfl <| ?_
  exact K1
theorem b39_12 {Q : AO → AG → AM → Prop} {g : AG} {M : AM}  {W P B : Nat} {x1 x2 x3 : Int} {w4 : AV}  (hSW : ShWorks g W P B) (hSP : ShPlan g P) (hSB : ShState g B) (hw4 : am_cat w4 = 1) (q0 : 0 ≤ x3) (q1 : -2147483648 ≤ x3 ∧ x3 < 2147483648) (q2 : 0 ≤ x1 ∧ x1 < 6) (q3 : 0 ≤ x2 ∧ x2 ≤ 6) (q4 : x3 < x2 → -2147483648 ≤ M (P + 5 + x1.toNat) x3 ∧ M (P + 5 + x1.toNat) x3 < 2147483648) (q5 : 0 ≤ M (P + 3) x1 ∧ M (P + 3) x1 ≤ 6) (q6 : ∀ i : Int, 0 ≤ i → i < M (P + 3) x1 → -2147483648 ≤ M (P + 5 + x1.toNat) i ∧ M (P + 5 + x1.toNat) i < 2147483648) (q7 : 0 ≤ M B 4 ∧ M B 4 ≤ 16) (q8 : ∀ i : Int, 0 ≤ i → i < M B 4 → -2147483648 ≤ M (B + 9) i ∧ M (B + 9) i < 2147483648) (q9 : x3 < x2 → -2147483648 ≤ (r40 M W P B x1 (M (P + 5 + x1.toNat) x3)) ∧ (r40 M W P B x1 (M (P + 5 + x1.toNat) x3)) < 2147483648) (q10 : x3 < x2 → -2147483648 ≤ (r22 M B (M (P + 5 + x1.toNat) x3)) ∧ (r22 M B (M (P + 5 + x1.toNat) x3)) < 2147483648)
    (K2 : x2 ≤ x3 → Q (.inl (some (aI 1))) g M)
    (K4 : x3 < x2 → (r40 M W P B x1 (M (P + 5 + x1.toNat) x3)) ≤ (r22 M B (M (P + 5 + x1.toNat) x3)) → Ok 1 39 12 [aR W, aI x1, aI x2, aI (x3 + 1), aI (M (P + 5 + x1.toNat) x3)] [] g M Q)
    (K5 : x3 < x2 → (r22 M B (M (P + 5 + x1.toNat) x3)) < (r40 M W P B x1 (M (P + 5 + x1.toNat) x3)) → Q (.inl (some (aI 0))) g M) :
    Ok 1 39 12 [aR W, aI x1, aI x2, aI x3, w4] [] g M Q := by
  refine ok_iloadn (pc' := 13) i39_12 rfl rfl <| ok_iloadn (pc' := 14) i39_13 rfl rfl <| ?_
  refine ok_cge (pc1 := 57) (pc2 := 17) i39_14 (by clear q4 q6 q8 q9 q10; omega) rfl rfl (fun h1 => ?_) (fun h1 => ?_)
  · refine ok_iconst (pc' := 58) i39_57 rfl <| ok_iretz i39_58 rt39 (by decide) <| ?_
    exact K2 h1
  · refine ok_aloadn (pc' := 18) i39_17 rfl rfl <| ok_getfr (r := P) (pc' := 21) i39_18 o39 gr8_9 (ShWorks_k0 hSW) (ShWorks_r0 hSW) rfl <| ok_getfr (r := (P + 4)) (pc' := 24) i39_21 o39 gr8_43 (ShPlan_k0 hSP) (ShPlan_r5 hSP) rfl <| ok_iloadn (pc' := 25) i39_24 rfl rfl <| ok_aaload (r := (P + 5 + x1.toNat)) (pc' := 26) i39_25 (ShPlan_k4 hSP) (by decide) (ShPlan_l4 hSP) (by have z0 := q4 h1; have z1 := q9 h1; have z2 := q10 h1; clear q4 q6 q8 q9 q10; omega) (ShPlan_ev4 hSP (by have z0 := q4 h1; have z1 := q9 h1; have z2 := q10 h1; clear q4 q6 q8 q9 q10; omega) (by have z0 := q4 h1; have z1 := q9 h1; have z2 := q10 h1; clear q4 q6 q8 q9 q10; omega)) rfl <| ok_iloadn (pc' := 27) i39_26 rfl rfl <| ok_iaload (v := (M (P + 5 + x1.toNat) x3)) (pc' := 28) i39_27 (ShPlan_kv4 hSP (by have z0 := q4 h1; have z1 := q9 h1; have z2 := q10 h1; clear q4 q6 q8 q9 q10; omega) (by have z0 := q4 h1; have z1 := q9 h1; have z2 := q10 h1; clear q4 q6 q8 q9 q10; omega)) (by decide) (ShPlan_lv4 hSP (by have z0 := q4 h1; have z1 := q9 h1; have z2 := q10 h1; clear q4 q6 q8 q9 q10; omega) (by have z0 := q4 h1; have z1 := q9 h1; have z2 := q10 h1; clear q4 q6 q8 q9 q10; omega)) (by have z0 := q4 h1; have z1 := q9 h1; have z2 := q10 h1; clear q4 q6 q8 q9 q10; omega) rfl rfl <| ok_istore (pc' := 30) (ls' := [aR W, aI x1, aI x2, aI x3, aI (M (P + 5 + x1.toNat) x3)]) i39_28 (bt rfl) rfl rfl <| ?_
    refine ok_aloadn (pc' := 31) i39_30 rfl rfl <| ok_iloadn (pc' := 32) i39_31 rfl rfl <| ok_iload (pc' := 34) i39_32 rfl rfl <| ok_cp (pc' := 37) (d0 := 0) i39_34 rfl (cl_v o39 m8_60 na40 rfl rfl (bt rfl) (bt rfl) rfl (by rw [ShWorks_k0 hSW, o40])) ln40 (pd40 (aR W) (aI x1) (aI (M (P + 5 + x1.toNat) x3))) (by decide) (t40 hSW hSP hSB q2 q5 ⟨(q4 h1).1, (q4 h1).2⟩ q6) rfl <| ok_aloadn (pc' := 38) i39_37 rfl rfl <| ok_getfr (r := B) (pc' := 41) i39_38 o39 gr8_15 (ShWorks_k0 hSW) (ShWorks_r1 hSW) rfl <| ok_iload (pc' := 43) i39_41 rfl rfl <| ok_cp (pc' := 46) (d0 := 0) i39_43 rfl (cl_v o39 m8_63 na22 rfl rfl (bt rfl) (bt rfl) rfl (by rw [ShState_k0 hSB, o22])) ln22 (pd22 (aR B) (aI (M (P + 5 + x1.toNat) x3))) (by decide) (t22 hSB q7 ⟨(q4 h1).1, (q4 h1).2⟩ q8) rfl <| ?_
    refine ok_cle (pc1 := 51) (pc2 := 49) i39_46 ⟨(q9 h1).1, (q9 h1).2, (q10 h1).1, (q10 h1).2⟩ rfl rfl (fun h3 => ?_) (fun h3 => ?_)
    · refine ok_iinc (pc' := 54) (v := (x3 + 1)) (ls' := [aR W, aI x1, aI x2, aI (x3 + 1), aI (M (P + 5 + x1.toNat) x3)]) i39_51 rfl rfl rfl rfl <| ok_goto (pc' := 12) i39_54 rfl <| ?_
      exact K4 h1 h3
    · refine ok_iconst (pc' := 50) i39_49 rfl <| ok_iretz i39_50 rt39 (by decide) <| ?_
      exact K5 h1 h3
def f39 (M : AM) (W P B : Nat) (x1 x2 : Int) (x3 a9 : Int) : Int ⊕ Int := (if (r40 M W P B x1 (M (P + 5 + x1.toNat) x3)) ≤ (r22 M B (M (P + 5 + x1.toNat) x3)) then (.inl a9) else (.inr 0))
def r39 (M : AM) (W P B : Nat) (x1 : Int) : Int := (itr (itx (f39 M W P B x1 (M (P + 3) x1)) 0 0 (M (P + 3) x1).toNat) (fun a9 => 1))
theorem t39 {g : AG} {M : AM} {W P B : Nat} {x1 : Int} (hSW : ShWorks g W P B) (hSP : ShPlan g P) (hSB : ShState g B) (h0 : 0 ≤ x1 ∧ x1 < 6) (h1 : 0 ≤ M (P + 3) x1 ∧ M (P + 3) x1 ≤ 6) (h3 : ∀ i : Int, 0 ≤ i → i < M (P + 3) x1 → -2147483648 ≤ M (P + 5 + x1.toNat) i ∧ M (P + 5 + x1.toNat) i < 2147483648) (h4 : 0 ≤ M B 4 ∧ M B 4 ≤ 16) (h9 : ∀ i : Int, 0 ≤ i → i < M B 4 → -2147483648 ≤ M (B + 9) i ∧ M (B + 9) i < 2147483648) (h7 : ∀ i : Int, 0 ≤ i → i < M (P + 3) x1 → -2147483648 ≤ (r40 M W P B x1 (M (P + 5 + x1.toNat) i)) ∧ (r40 M W P B x1 (M (P + 5 + x1.toNat) i)) < 2147483648) (h8 : ∀ i : Int, 0 ≤ i → i < M (P + 3) x1 → -2147483648 ≤ (r22 M B (M (P + 5 + x1.toNat) i)) ∧ (r22 M B (M (P + 5 + x1.toNat) i)) < 2147483648) :
    Ok 1 39 0 [aR W, aI x1, aU, aU, aU] [] g M (Rt (some (aI (r39 M W P B x1))) g (fun M9 => M9 = M)) := by
  refine b39_0 hSW hSP hSB (by omega) ?_
  refine ok_forx (lo := 0) (n := (M (P + 3) x1).toNat) (f := (f39 M W P B x1 (M (P + 3) x1))) (a0 := 0) (fun i a => True) (fun i a ls => ∃ w4 : AV, am_cat w4 = 1 ∧ ls = [aR W, aI x1, aI (M (P + 3) x1), aI i, w4]) ?_ ?_ ?_ _ ⟨aU, rfl, rfl⟩
  · trivial
  · rintro x3 a9 ls g1 g2 hinv ⟨w4, hw4, rfl⟩ hr ih
    have r3 := h3 x3
    have r7 := h7 x3
    have r8 := h8 x3
    refine b39_12 hSW hSP hSB hw4 (by omega) (by omega) (by omega) (by omega) (by omega) (by omega) (by assumption) (by omega) (by assumption) (by omega) (by omega) (fun h1 => by omega) (fun h1 h3 => ?_) (fun h1 h3 => ?_)
    · have e : f39 M W P B x1 (M (P + 3) x1) x3 a9 = (.inl a9) := by unfold f39; rw [if_pos h3]
      exact ih _ _ e trivial ⟨_, rfl, rfl⟩
    · have e : f39 M W P B x1 (M (P + 3) x1) x3 a9 = (.inr 0) := by unfold f39; rw [if_neg (by omega)]
      exact ⟨by unfold r39; rw [hr _ e]; rfl, rfl, rfl⟩
  · rintro a9 ls hx hinv ⟨w4, hw4, rfl⟩
    have r3 := h3 (0 + ((M (P + 3) x1).toNat : Nat))
    have r7 := h7 (0 + ((M (P + 3) x1).toNat : Nat))
    have r8 := h8 (0 + ((M (P + 3) x1).toNat : Nat))
    refine b39_12 hSW hSP hSB hw4 (by omega) (by omega) (by omega) (by omega) (by omega) (by omega) (by assumption) (by omega) (by assumption) (by omega) (by omega) (fun h1 => ⟨by unfold r39; rw [hx]; rfl, rfl, rfl⟩) (fun h1 h3 => by omega) (fun h1 h3 => by omega)
