/-! THE STATE: its questions (by program, wip/gen) -/
/-- a number that grows by one, a value that is reckoned -/
def itv (f : Int → Int → Int) (a0 lo : Int) : Nat → Int
  | 0 => a0
  | n + 1 => f (lo + n) (itv f a0 lo n)
theorem ok_for {d mi h : Nat} {g : AG} {M : AM} {Q : AO → AG → AM → Prop} {lo : Int} {n : Nat} {f : Int → Int → Int} {a0 : Int} (inv : Int → Int → Prop) (L : Int → Int → List AV → Prop) (h0 : inv lo a0)
    (hs : ∀ (i a : Int) (ls : List AV), lo ≤ i → i < lo + n → inv i a → L i a ls → (∀ ls', inv (i + 1) (f i a) → L (i + 1) (f i a) ls' → Ok d mi h ls' [] g M Q) → Ok d mi h ls [] g M Q)
    (he : ∀ ls, inv (lo + n) (itv f a0 lo n) → L (lo + n) (itv f a0 lo n) ls → Ok d mi h ls [] g M Q) : ∀ ls, L lo a0 ls → Ok d mi h ls [] g M Q := by
  have key : ∀ k : Nat, k ≤ n → ∀ ls, inv (lo + (n - k : Nat)) (itv f a0 lo (n - k)) → L (lo + (n - k : Nat)) (itv f a0 lo (n - k)) ls → Ok d mi h ls [] g M Q := by
    intro k
    induction k with
    | zero => exact fun _ ls h1 h2 => he ls h1 h2
    | succ k ih =>
      intro hk ls h1 h2
      refine hs _ _ ls (by omega) (by omega) h1 h2 (fun ls' h3 h4 => ?_)
      have e : n - k = (n - (k + 1)) + 1 := by omega
      have e2 : itv f a0 lo (n - k) = f (lo + (n - (k + 1) : Nat)) (itv f a0 lo (n - (k + 1))) := by rw [e]; rfl
      have e3 : lo + ((n - (k + 1) : Nat) : Int) + 1 = lo + (n - k : Nat) := by omega
      rw [e3, ← e2] at h3 h4
      exact ih (by omega) ls' h3 h4
  intro ls h
  have := key n (Nat.le_refl _) ls
  rw [Nat.sub_self] at this
  refine this ?_ ?_
  · rw [show lo + ((0 : Nat) : Int) = lo by omega]; exact h0
  · rw [show lo + ((0 : Nat) : Int) = lo by omega]; exact h
theorem gi5_36 : am_gfi 5 36 5 2 = true := by decide +kernel
theorem o18 : am_oc 18 = 5 := by decide +kernel
theorem rt18 : am_rt 18 = some .int := by decide +kernel
theorem gr5_17 : am_gfr 5 17 5 3 = true := by decide +kernel
theorem gi5_39 : am_gfi 5 39 5 4 = true := by decide +kernel
theorem o19 : am_oc 19 = 5 := by decide +kernel
theorem rt19 : am_rt 19 = some .int := by decide +kernel
theorem gr5_20 : am_gfr 5 20 5 5 = true := by decide +kernel
theorem o20 : am_oc 20 = 5 := by decide +kernel
theorem rt20 : am_rt 20 = some .int := by decide +kernel
theorem rt21 : am_rt 21 = some .int := by decide +kernel
theorem gr5_23 : am_gfr 5 23 5 6 = true := by decide +kernel
theorem o21 : am_oc 21 = 5 := by decide +kernel
theorem o22 : am_oc 22 = 5 := by decide +kernel
theorem rt22 : am_rt 22 = some .int := by decide +kernel
theorem o23 : am_oc 23 = 5 := by decide +kernel
theorem rt23 : am_rt 23 = some .int := by decide +kernel
theorem o24 : am_oc 24 = 5 := by decide +kernel
theorem rt24 : am_rt 24 = some .int := by decide +kernel
theorem o25 : am_oc 25 = 5 := by decide +kernel
theorem rt25 : am_rt 25 = some .int := by decide +kernel
theorem o27 : am_oc 27 = 5 := by decide +kernel
theorem rt27 : am_rt 27 = some .int := by decide +kernel
theorem b18_0 {Q : AO → AG → AM → Prop} {g : AG} {M : AM}  {B : Nat}  (hSB : ShState g B)  
    (K1 : Ok 0 18 4 [aR B, aI 0, aI 0] [] g M Q) :
    Ok 0 18 0 [aR B, aU, aU] [] g M Q := by
  refine ok_iconst (pc' := 1) i18_0 rfl <| ok_istoren (pc' := 2) (ls' := [aR B, aI 0, aU]) i18_1 (bt rfl) rfl rfl <| ok_iconst (pc' := 3) i18_2 rfl <| ok_istoren (pc' := 4) (ls' := [aR B, aI 0, aI 0]) i18_3 (bt rfl) rfl rfl <| ?_
  exact K1
theorem b18_4 {Q : AO → AG → AM → Prop} {g : AG} {M : AM}  {B : Nat} {x1 x2 : Int}  (hSB : ShState g B)  (q0 : 0 ≤ x2) (q1 : -2147483648 ≤ x2 ∧ x2 < 2147483648) (q2 : 0 ≤ M B 2 ∧ M B 2 ≤ 80) (q3 : x2 < M B 2 → -2147483648 ≤ M (B + 5) x2 ∧ M (B + 5) x2 < 2147483648)
    (K2 : (M B 2) ≤ x2 → Q (.inl (some (aI x1))) g M)
    (K4 : x2 < (M B 2) → (M (B + 5) x2) ≠ 0 → Ok 0 18 4 [aR B, aI x1, aI (x2 + 1)] [] g M Q)
    (K5 : x2 < (M B 2) → (M (B + 5) x2) = 0 → Ok 0 18 4 [aR B, aI (x1 + 1), aI (x2 + 1)] [] g M Q) :
    Ok 0 18 4 [aR B, aI x1, aI x2] [] g M Q := by
  refine ok_iloadn (pc' := 5) i18_4 rfl rfl <| ok_aloadn (pc' := 6) i18_5 rfl rfl <| ok_getfi (v := (M B 2)) (pc' := 9) i18_6 o18 gi5_36 (ShState_k0 hSB) rfl rfl <| ?_
  refine ok_cge (pc1 := 32) (pc2 := 12) i18_9 (by clear q3; omega) rfl rfl (fun h1 => ?_) (fun h1 => ?_)
  · refine ok_iloadn (pc' := 33) i18_32 rfl rfl <| ok_ireti i18_33 rt18 <| ?_
    exact K2 h1
  · refine ok_aloadn (pc' := 13) i18_12 rfl rfl <| ok_getfr (r := (B + 2)) (pc' := 16) i18_13 o18 gr5_17 (ShState_k0 hSB) (ShState_r3 hSB) rfl <| ok_iconst (pc' := 17) i18_16 rfl <| ok_aaload (r := (B + 5)) (pc' := 18) i18_17 (ShState_k2 hSB) (by decide) (ShState_l2 hSB) (by decide) (ShState_e2_2 hSB) rfl <| ok_iloadn (pc' := 19) i18_18 rfl rfl <| ok_iaload (v := (M (B + 5) x2)) (pc' := 20) i18_19 (ShState_k5 hSB) (by decide) (ShState_l5 hSB) (by have z0 := q3 h1; clear q3; omega) rfl rfl <| ?_
    refine ok_zne (pc1 := 26) (pc2 := 23) i18_20 ⟨(q3 h1).1, (q3 h1).2⟩ rfl rfl (fun h3 => ?_) (fun h3 => ?_)
    · refine ok_iinc (pc' := 29) (v := (x2 + 1)) (ls' := [aR B, aI x1, aI (x2 + 1)]) i18_26 rfl rfl rfl rfl <| ok_goto (pc' := 4) i18_29 rfl <| ?_
      exact K4 h1 h3
    · refine ok_iinc (pc' := 26) (v := (x1 + 1)) (ls' := [aR B, aI (x1 + 1), aI x2]) i18_23 rfl rfl rfl rfl <| ok_iinc (pc' := 29) (v := (x2 + 1)) (ls' := [aR B, aI (x1 + 1), aI (x2 + 1)]) i18_26 rfl rfl rfl rfl <| ok_goto (pc' := 4) i18_29 rfl <| ?_
      exact K5 h1 h3
def f18 (M : AM) (B : Nat) (x2 x1 : Int) : Int := (if (M (B + 5) x2) ≠ 0 then x1 else (x1 + 1))
def r18 (M : AM) (B : Nat) : Int := (itv (f18 M B) 0 0 (M B 2).toNat)
theorem t18 {g : AG} {M : AM} {B : Nat} (hSB : ShState g B) (h0 : 0 ≤ M B 2 ∧ M B 2 ≤ 80) (h5 : ∀ i : Int, 0 ≤ i → i < M B 2 → -2147483648 ≤ M (B + 5) i ∧ M (B + 5) i < 2147483648) :
    Ok 0 18 0 [aR B, aU, aU] [] g M (Rt (some (aI (r18 M B))) g (fun M9 => M9 = M)) := by
  refine b18_0 hSB  ?_
  refine ok_for (lo := 0) (n := (M B 2).toNat) (f := (f18 M B)) (a0 := 0) (fun i a => True) (fun i a ls => ls = [aR B, aI a, aI i]) ?_ ?_ ?_ _ rfl
  · trivial
  · rintro x2 x1 ls g1 g2 hinv rfl ih
    have r5 := h5 x2
    refine b18_4 hSB  (by omega) (by omega) (by omega) (by omega) (fun h1 => by omega) (fun h1 h3 => ?_) (fun h1 h3 => ?_)
    · have e : f18 M B x2 x1 = x1 := by unfold f18; rw [if_pos h3]
      exact ih _ trivial (by rw [e])
    · have e : f18 M B x2 x1 = (x1 + 1) := by unfold f18; rw [if_neg (by omega)]
      exact ih _ trivial (by rw [e])
  · rintro ls hinv rfl
    have r5 := h5 (0 + ((M B 2).toNat : Nat))
    refine b18_4 hSB  (by omega) (by omega) (by omega) (by omega) (fun h1 => ⟨rfl, rfl, rfl⟩) (fun h1 h3 => by omega) (fun h1 h3 => by omega)
theorem b19_0 {Q : AO → AG → AM → Prop} {g : AG} {M : AM}  {B : Nat}  (hSB : ShState g B)  
    (K1 : Ok 0 19 4 [aR B, aI 0, aI 0] [] g M Q) :
    Ok 0 19 0 [aR B, aU, aU] [] g M Q := by
  refine ok_iconst (pc' := 1) i19_0 rfl <| ok_istoren (pc' := 2) (ls' := [aR B, aI 0, aU]) i19_1 (bt rfl) rfl rfl <| ok_iconst (pc' := 3) i19_2 rfl <| ok_istoren (pc' := 4) (ls' := [aR B, aI 0, aI 0]) i19_3 (bt rfl) rfl rfl <| ?_
  exact K1
theorem b19_4 {Q : AO → AG → AM → Prop} {g : AG} {M : AM}  {B : Nat} {x1 x2 : Int}  (hSB : ShState g B)  (q0 : 0 ≤ x2) (q1 : -2147483648 ≤ x2 ∧ x2 < 2147483648) (q2 : 0 ≤ M B 4 ∧ M B 4 ≤ 16) (q3 : x2 < M B 4 → -2147483648 ≤ M (B + 13) x2 ∧ M (B + 13) x2 < 2147483648)
    (K2 : (M B 4) ≤ x2 → Q (.inl (some (aI x1))) g M)
    (K4 : x2 < (M B 4) → (M (B + 13) x2) ≤ 0 → Ok 0 19 4 [aR B, aI x1, aI (x2 + 1)] [] g M Q)
    (K5 : x2 < (M B 4) → 0 < (M (B + 13) x2) → Ok 0 19 4 [aR B, aI (x1 + 1), aI (x2 + 1)] [] g M Q) :
    Ok 0 19 4 [aR B, aI x1, aI x2] [] g M Q := by
  refine ok_iloadn (pc' := 5) i19_4 rfl rfl <| ok_aloadn (pc' := 6) i19_5 rfl rfl <| ok_getfi (v := (M B 4)) (pc' := 9) i19_6 o19 gi5_39 (ShState_k0 hSB) rfl rfl <| ?_
  refine ok_cge (pc1 := 32) (pc2 := 12) i19_9 (by clear q3; omega) rfl rfl (fun h1 => ?_) (fun h1 => ?_)
  · refine ok_iloadn (pc' := 33) i19_32 rfl rfl <| ok_ireti i19_33 rt19 <| ?_
    exact K2 h1
  · refine ok_aloadn (pc' := 13) i19_12 rfl rfl <| ok_getfr (r := (B + 8)) (pc' := 16) i19_13 o19 gr5_20 (ShState_k0 hSB) (ShState_r5 hSB) rfl <| ok_iconst (pc' := 17) i19_16 rfl <| ok_aaload (r := (B + 13)) (pc' := 18) i19_17 (ShState_k8 hSB) (by decide) (ShState_l8 hSB) (by decide) (ShState_e8_4 hSB) rfl <| ok_iloadn (pc' := 19) i19_18 rfl rfl <| ok_iaload (v := (M (B + 13) x2)) (pc' := 20) i19_19 (ShState_k13 hSB) (by decide) (ShState_l13 hSB) (by have z0 := q3 h1; clear q3; omega) rfl rfl <| ?_
    refine ok_zle (pc1 := 26) (pc2 := 23) i19_20 ⟨(q3 h1).1, (q3 h1).2⟩ rfl rfl (fun h3 => ?_) (fun h3 => ?_)
    · refine ok_iinc (pc' := 29) (v := (x2 + 1)) (ls' := [aR B, aI x1, aI (x2 + 1)]) i19_26 rfl rfl rfl rfl <| ok_goto (pc' := 4) i19_29 rfl <| ?_
      exact K4 h1 h3
    · refine ok_iinc (pc' := 26) (v := (x1 + 1)) (ls' := [aR B, aI (x1 + 1), aI x2]) i19_23 rfl rfl rfl rfl <| ok_iinc (pc' := 29) (v := (x2 + 1)) (ls' := [aR B, aI (x1 + 1), aI (x2 + 1)]) i19_26 rfl rfl rfl rfl <| ok_goto (pc' := 4) i19_29 rfl <| ?_
      exact K5 h1 h3
def f19 (M : AM) (B : Nat) (x2 x1 : Int) : Int := (if (M (B + 13) x2) ≤ 0 then x1 else (x1 + 1))
def r19 (M : AM) (B : Nat) : Int := (itv (f19 M B) 0 0 (M B 4).toNat)
theorem t19 {g : AG} {M : AM} {B : Nat} (hSB : ShState g B) (h0 : 0 ≤ M B 4 ∧ M B 4 ≤ 16) (h5 : ∀ i : Int, 0 ≤ i → i < M B 4 → -2147483648 ≤ M (B + 13) i ∧ M (B + 13) i < 2147483648) :
    Ok 0 19 0 [aR B, aU, aU] [] g M (Rt (some (aI (r19 M B))) g (fun M9 => M9 = M)) := by
  refine b19_0 hSB  ?_
  refine ok_for (lo := 0) (n := (M B 4).toNat) (f := (f19 M B)) (a0 := 0) (fun i a => True) (fun i a ls => ls = [aR B, aI a, aI i]) ?_ ?_ ?_ _ rfl
  · trivial
  · rintro x2 x1 ls g1 g2 hinv rfl ih
    have r5 := h5 x2
    refine b19_4 hSB  (by omega) (by omega) (by omega) (by omega) (fun h1 => by omega) (fun h1 h3 => ?_) (fun h1 h3 => ?_)
    · have e : f19 M B x2 x1 = x1 := by unfold f19; rw [if_pos h3]
      exact ih _ trivial (by rw [e])
    · have e : f19 M B x2 x1 = (x1 + 1) := by unfold f19; rw [if_neg (by omega)]
      exact ih _ trivial (by rw [e])
  · rintro ls hinv rfl
    have r5 := h5 (0 + ((M B 4).toNat : Nat))
    refine b19_4 hSB  (by omega) (by omega) (by omega) (by omega) (fun h1 => ⟨rfl, rfl, rfl⟩) (fun h1 h3 => by omega) (fun h1 h3 => by omega)
theorem b20_0 {Q : AO → AG → AM → Prop} {g : AG} {M : AM}  {B : Nat}  (hSB : ShState g B)  
    (K1 : Ok 0 20 4 [aR B, aI 0, aI 0] [] g M Q) :
    Ok 0 20 0 [aR B, aU, aU] [] g M Q := by
  refine ok_iconst (pc' := 1) i20_0 rfl <| ok_istoren (pc' := 2) (ls' := [aR B, aI 0, aU]) i20_1 (bt rfl) rfl rfl <| ok_iconst (pc' := 3) i20_2 rfl <| ok_istoren (pc' := 4) (ls' := [aR B, aI 0, aI 0]) i20_3 (bt rfl) rfl rfl <| ?_
  exact K1
theorem b20_4 {Q : AO → AG → AM → Prop} {g : AG} {M : AM}  {B : Nat} {x1 x2 : Int}  (hSB : ShState g B)  (q0 : 0 ≤ x2) (q1 : -2147483648 ≤ x2 ∧ x2 < 2147483648) (q2 : 0 ≤ M B 4 ∧ M B 4 ≤ 16)
    (K2 : (M B 4) ≤ x2 → Q (.inl (some (aI x1))) g M)
    (K3 : x2 < (M B 4) → Ok 0 20 4 [aR B, aI (x1 + (M (B + 13) x2)), aI (x2 + 1)] [] g M Q) :
    Ok 0 20 4 [aR B, aI x1, aI x2] [] g M Q := by
  refine ok_iloadn (pc' := 5) i20_4 rfl rfl <| ok_aloadn (pc' := 6) i20_5 rfl rfl <| ok_getfi (v := (M B 4)) (pc' := 9) i20_6 o20 gi5_39 (ShState_k0 hSB) rfl rfl <| ?_
  refine ok_cge (pc1 := 29) (pc2 := 12) i20_9 (by omega) rfl rfl (fun h1 => ?_) (fun h1 => ?_)
  · refine ok_iloadn (pc' := 30) i20_29 rfl rfl <| ok_ireti i20_30 rt20 <| ?_
    exact K2 h1
  · refine ok_iloadn (pc' := 13) i20_12 rfl rfl <| ok_aloadn (pc' := 14) i20_13 rfl rfl <| ok_getfr (r := (B + 8)) (pc' := 17) i20_14 o20 gr5_20 (ShState_k0 hSB) (ShState_r5 hSB) rfl <| ok_iconst (pc' := 18) i20_17 rfl <| ok_aaload (r := (B + 13)) (pc' := 19) i20_18 (ShState_k8 hSB) (by decide) (ShState_l8 hSB) (by decide) (ShState_e8_4 hSB) rfl <| ok_iloadn (pc' := 20) i20_19 rfl rfl <| ok_iaload (v := (M (B + 13) x2)) (pc' := 21) i20_20 (ShState_k13 hSB) (by decide) (ShState_l13 hSB) (by omega) rfl rfl <| ok_iadd (v := (x1 + (M (B + 13) x2))) (pc' := 22) i20_21 rfl rfl <| ?_
    refine ok_istoren (pc' := 23) (ls' := [aR B, aI (x1 + (M (B + 13) x2)), aI x2]) i20_22 (bt rfl) rfl rfl <| ok_iinc (pc' := 26) (v := (x2 + 1)) (ls' := [aR B, aI (x1 + (M (B + 13) x2)), aI (x2 + 1)]) i20_23 rfl rfl rfl rfl <| ok_goto (pc' := 4) i20_26 rfl <| ?_
    exact K3 h1
def f20 (M : AM) (B : Nat) (x2 x1 : Int) : Int := (x1 + (M (B + 13) x2))
def r20 (M : AM) (B : Nat) : Int := (itv (f20 M B) 0 0 (M B 4).toNat)
theorem t20 {g : AG} {M : AM} {B : Nat} (hSB : ShState g B) (h0 : 0 ≤ M B 4 ∧ M B 4 ≤ 16) :
    Ok 0 20 0 [aR B, aU, aU] [] g M (Rt (some (aI (r20 M B))) g (fun M9 => M9 = M)) := by
  refine b20_0 hSB  ?_
  refine ok_for (lo := 0) (n := (M B 4).toNat) (f := (f20 M B)) (a0 := 0) (fun i a => True) (fun i a ls => ls = [aR B, aI a, aI i]) ?_ ?_ ?_ _ rfl
  · trivial
  · rintro x2 x1 ls g1 g2 hinv rfl ih
    refine b20_4 hSB  (by omega) (by omega) (by omega) (fun h1 => by omega) (fun h1 => ?_)
    · have e : f20 M B x2 x1 = (x1 + (M (B + 13) x2)) := by unfold f20; rfl
      exact ih _ trivial (by rw [e])
  · rintro ls hinv rfl
    refine b20_4 hSB  (by omega) (by omega) (by omega) (fun h1 => ⟨rfl, rfl, rfl⟩) (fun h1 => by omega)
theorem b21_0 {Q : AO → AG → AM → Prop} {g : AG} {M : AM}  {B : Nat}  (hSB : ShState g B)  
    (K1 : Ok 0 21 4 [aR B, aI 0, aI 1] [] g M Q) :
    Ok 0 21 0 [aR B, aU, aU] [] g M Q := by
  refine ok_iconst (pc' := 1) i21_0 rfl <| ok_istoren (pc' := 2) (ls' := [aR B, aI 0, aU]) i21_1 (bt rfl) rfl rfl <| ok_iconst (pc' := 3) i21_2 rfl <| ok_istoren (pc' := 4) (ls' := [aR B, aI 0, aI 1]) i21_3 (bt rfl) rfl rfl <| ?_
  exact K1
theorem b21_4 {Q : AO → AG → AM → Prop} {g : AG} {M : AM}  {B : Nat} {x1 x2 : Int}  (hSB : ShState g B)  (q0 : 1 ≤ x2) (q1 : -2147483648 ≤ x2 ∧ x2 < 2147483648)
    (K2 : 200 < x2 → Q (.inl (some (aI x1))) g M)
    (K3 : x2 ≤ 200 → Ok 0 21 4 [aR B, aI (x1 + (M (B + 17) x2)), aI (x2 + 1)] [] g M Q) :
    Ok 0 21 4 [aR B, aI x1, aI x2] [] g M Q := by
  refine ok_iloadn (pc' := 5) i21_4 rfl rfl <| ok_sipush (v := 200) (pc' := 8) i21_5 rfl rfl <| ?_
  refine ok_cgt (pc1 := 26) (pc2 := 11) i21_8 ⟨q1.1, q1.2, by decide, by decide⟩ rfl rfl (fun h1 => ?_) (fun h1 => ?_)
  · refine ok_iloadn (pc' := 27) i21_26 rfl rfl <| ok_ireti i21_27 rt21 <| ?_
    exact K2 h1
  · refine ok_iloadn (pc' := 12) i21_11 rfl rfl <| ok_aloadn (pc' := 13) i21_12 rfl rfl <| ok_getfr (r := (B + 17)) (pc' := 16) i21_13 o21 gr5_23 (ShState_k0 hSB) (ShState_r6 hSB) rfl <| ok_iloadn (pc' := 17) i21_16 rfl rfl <| ok_iaload (v := (M (B + 17) x2)) (pc' := 18) i21_17 (ShState_k17 hSB) (by decide) (ShState_l17 hSB) (by omega) rfl rfl <| ok_iadd (v := (x1 + (M (B + 17) x2))) (pc' := 19) i21_18 rfl rfl <| ok_istoren (pc' := 20) (ls' := [aR B, aI (x1 + (M (B + 17) x2)), aI x2]) i21_19 (bt rfl) rfl rfl <| ok_iinc (pc' := 23) (v := (x2 + 1)) (ls' := [aR B, aI (x1 + (M (B + 17) x2)), aI (x2 + 1)]) i21_20 rfl rfl rfl rfl <| ?_
    refine ok_goto (pc' := 4) i21_23 rfl <| ?_
    exact K3 h1
def f21 (M : AM) (B : Nat) (x2 x1 : Int) : Int := (x1 + (M (B + 17) x2))
def r21 (M : AM) (B : Nat) : Int := (itv (f21 M B) 0 1 200)
theorem t21 {g : AG} {M : AM} {B : Nat} (hSB : ShState g B)  :
    Ok 0 21 0 [aR B, aU, aU] [] g M (Rt (some (aI (r21 M B))) g (fun M9 => M9 = M)) := by
  refine b21_0 hSB  ?_
  refine ok_for (lo := 1) (n := 200) (f := (f21 M B)) (a0 := 0) (fun i a => True) (fun i a ls => ls = [aR B, aI a, aI i]) ?_ ?_ ?_ _ rfl
  · trivial
  · rintro x2 x1 ls g1 g2 hinv rfl ih
    refine b21_4 hSB  (by omega) (by omega) (fun h1 => by omega) (fun h1 => ?_)
    · have e : f21 M B x2 x1 = (x1 + (M (B + 17) x2)) := by unfold f21; rfl
      exact ih _ trivial (by rw [e])
  · rintro ls hinv rfl
    refine b21_4 hSB  (by omega) (by omega) (fun h1 => ⟨rfl, rfl, rfl⟩) (fun h1 => by omega)
theorem b22_0 {Q : AO → AG → AM → Prop} {g : AG} {M : AM}  {B : Nat} {x1 : Int}  (hSB : ShState g B)  
    (K1 : Ok 0 22 4 [aR B, aI x1, aI 0, aI 0] [] g M Q) :
    Ok 0 22 0 [aR B, aI x1, aU, aU] [] g M Q := by
  refine ok_iconst (pc' := 1) i22_0 rfl <| ok_istoren (pc' := 2) (ls' := [aR B, aI x1, aI 0, aU]) i22_1 (bt rfl) rfl rfl <| ok_iconst (pc' := 3) i22_2 rfl <| ok_istoren (pc' := 4) (ls' := [aR B, aI x1, aI 0, aI 0]) i22_3 (bt rfl) rfl rfl <| ?_
  exact K1
theorem b22_4 {Q : AO → AG → AM → Prop} {g : AG} {M : AM}  {B : Nat} {x1 x2 x3 : Int}  (hSB : ShState g B)  (q0 : 0 ≤ x3) (q1 : -2147483648 ≤ x3 ∧ x3 < 2147483648) (q2 : 0 ≤ M B 4 ∧ M B 4 ≤ 16) (q3 : -2147483648 ≤ x1 ∧ x1 < 2147483648) (q4 : x3 < M B 4 → -2147483648 ≤ M (B + 9) x3 ∧ M (B + 9) x3 < 2147483648)
    (K2 : (M B 4) ≤ x3 → Q (.inl (some (aI x2))) g M)
    (K4 : x3 < (M B 4) → (M (B + 9) x3) ≠ x1 → Ok 0 22 4 [aR B, aI x1, aI x2, aI (x3 + 1)] [] g M Q)
    (K5 : x3 < (M B 4) → (M (B + 9) x3) = x1 → Ok 0 22 4 [aR B, aI x1, aI (x2 + (M (B + 13) x3)), aI (x3 + 1)] [] g M Q) :
    Ok 0 22 4 [aR B, aI x1, aI x2, aI x3] [] g M Q := by
  refine ok_iloadn (pc' := 5) i22_4 rfl rfl <| ok_aloadn (pc' := 6) i22_5 rfl rfl <| ok_getfi (v := (M B 4)) (pc' := 9) i22_6 o22 gi5_39 (ShState_k0 hSB) rfl rfl <| ?_
  refine ok_cge (pc1 := 41) (pc2 := 12) i22_9 (by clear q4; omega) rfl rfl (fun h1 => ?_) (fun h1 => ?_)
  · refine ok_iloadn (pc' := 42) i22_41 rfl rfl <| ok_ireti i22_42 rt22 <| ?_
    exact K2 h1
  · refine ok_aloadn (pc' := 13) i22_12 rfl rfl <| ok_getfr (r := (B + 8)) (pc' := 16) i22_13 o22 gr5_20 (ShState_k0 hSB) (ShState_r5 hSB) rfl <| ok_iconst (pc' := 17) i22_16 rfl <| ok_aaload (r := (B + 9)) (pc' := 18) i22_17 (ShState_k8 hSB) (by decide) (ShState_l8 hSB) (by decide) (ShState_e8_0 hSB) rfl <| ok_iloadn (pc' := 19) i22_18 rfl rfl <| ok_iaload (v := (M (B + 9) x3)) (pc' := 20) i22_19 (ShState_k9 hSB) (by decide) (ShState_l9 hSB) (by have z0 := q4 h1; clear q4; omega) rfl rfl <| ok_iloadn (pc' := 21) i22_20 rfl rfl <| ?_
    refine ok_cne (pc1 := 35) (pc2 := 24) i22_21 ⟨(q4 h1).1, (q4 h1).2, q3.1, q3.2⟩ rfl rfl (fun h3 => ?_) (fun h3 => ?_)
    · refine ok_iinc (pc' := 38) (v := (x3 + 1)) (ls' := [aR B, aI x1, aI x2, aI (x3 + 1)]) i22_35 rfl rfl rfl rfl <| ok_goto (pc' := 4) i22_38 rfl <| ?_
      exact K4 h1 h3
    · refine ok_iloadn (pc' := 25) i22_24 rfl rfl <| ok_aloadn (pc' := 26) i22_25 rfl rfl <| ok_getfr (r := (B + 8)) (pc' := 29) i22_26 o22 gr5_20 (ShState_k0 hSB) (ShState_r5 hSB) rfl <| ok_iconst (pc' := 30) i22_29 rfl <| ok_aaload (r := (B + 13)) (pc' := 31) i22_30 (ShState_k8 hSB) (by decide) (ShState_l8 hSB) (by decide) (ShState_e8_4 hSB) rfl <| ok_iloadn (pc' := 32) i22_31 rfl rfl <| ok_iaload (v := (M (B + 13) x3)) (pc' := 33) i22_32 (ShState_k13 hSB) (by decide) (ShState_l13 hSB) (by have z0 := q4 h1; clear q4; omega) rfl rfl <| ok_iadd (v := (x2 + (M (B + 13) x3))) (pc' := 34) i22_33 rfl rfl <| ?_
      refine ok_istoren (pc' := 35) (ls' := [aR B, aI x1, aI (x2 + (M (B + 13) x3)), aI x3]) i22_34 (bt rfl) rfl rfl <| ok_iinc (pc' := 38) (v := (x3 + 1)) (ls' := [aR B, aI x1, aI (x2 + (M (B + 13) x3)), aI (x3 + 1)]) i22_35 rfl rfl rfl rfl <| ok_goto (pc' := 4) i22_38 rfl <| ?_
      exact K5 h1 h3
def f22 (M : AM) (B : Nat) (x1 : Int) (x3 x2 : Int) : Int := (if (M (B + 9) x3) ≠ x1 then x2 else (x2 + (M (B + 13) x3)))
def r22 (M : AM) (B : Nat) (x1 : Int) : Int := (itv (f22 M B x1) 0 0 (M B 4).toNat)
theorem t22 {g : AG} {M : AM} {B : Nat} {x1 : Int} (hSB : ShState g B) (h0 : 0 ≤ M B 4 ∧ M B 4 ≤ 16) (h1 : -2147483648 ≤ x1 ∧ x1 < 2147483648) (h9 : ∀ i : Int, 0 ≤ i → i < M B 4 → -2147483648 ≤ M (B + 9) i ∧ M (B + 9) i < 2147483648) :
    Ok 0 22 0 [aR B, aI x1, aU, aU] [] g M (Rt (some (aI (r22 M B x1))) g (fun M9 => M9 = M)) := by
  refine b22_0 hSB  ?_
  refine ok_for (lo := 0) (n := (M B 4).toNat) (f := (f22 M B x1)) (a0 := 0) (fun i a => True) (fun i a ls => ls = [aR B, aI x1, aI a, aI i]) ?_ ?_ ?_ _ rfl
  · trivial
  · rintro x3 x2 ls g1 g2 hinv rfl ih
    have r9 := h9 x3
    refine b22_4 hSB  (by omega) (by omega) (by omega) (by omega) (by omega) (fun h1 => by omega) (fun h1 h3 => ?_) (fun h1 h3 => ?_)
    · have e : f22 M B x1 x3 x2 = x2 := by unfold f22; rw [if_pos h3]
      exact ih _ trivial (by rw [e])
    · have e : f22 M B x1 x3 x2 = (x2 + (M (B + 13) x3)) := by unfold f22; rw [if_neg (by omega)]
      exact ih _ trivial (by rw [e])
  · rintro ls hinv rfl
    have r9 := h9 (0 + ((M B 4).toNat : Nat))
    refine b22_4 hSB  (by omega) (by omega) (by omega) (by omega) (by omega) (fun h1 => ⟨rfl, rfl, rfl⟩) (fun h1 h3 => by omega) (fun h1 h3 => by omega)
theorem b23_0 {Q : AO → AG → AM → Prop} {g : AG} {M : AM}  {B : Nat}  (hSB : ShState g B)  
    (K1 : Ok 0 23 4 [aR B, aI (-1), aI 0, aU] [] g M Q) :
    Ok 0 23 0 [aR B, aU, aU, aU] [] g M Q := by
  refine ok_iconst (pc' := 1) i23_0 rfl <| ok_istoren (pc' := 2) (ls' := [aR B, aI (-1), aU, aU]) i23_1 (bt rfl) rfl rfl <| ok_iconst (pc' := 3) i23_2 rfl <| ok_istoren (pc' := 4) (ls' := [aR B, aI (-1), aI 0, aU]) i23_3 (bt rfl) rfl rfl <| ?_
  exact K1
theorem b23_4 {Q : AO → AG → AM → Prop} {g : AG} {M : AM}  {B : Nat} {x1 x2 : Int} {w3 : AV}  (hSB : ShState g B) (hw3 : am_cat w3 = 1) (q0 : 0 ≤ x2) (q1 : -2147483648 ≤ x2 ∧ x2 < 2147483648) (q2 : 0 ≤ M B 2 ∧ M B 2 ≤ 80) (q3 : x2 < M B 2 → -2147483648 ≤ M (B + 4) x2 ∧ M (B + 4) x2 < 2147483648) (q4 : -1 ≤ x1 ∧ x1 < 80) (q5 : x1 ≠ -1 → -2147483648 ≤ M (B + 4) x1 ∧ M (B + 4) x1 < 2147483648)
    (K2 : (M B 2) ≤ x2 → Q (.inl (some (aI x1))) g M)
    (K4 : x2 < (M B 2) → (M (B + 4) x2) ≤ 0 → Ok 0 23 4 [aR B, aI x1, aI (x2 + 1), aI (M (B + 4) x2)] [] g M Q)
    (K6 : x2 < (M B 2) → 0 < (M (B + 4) x2) → x1 = (-1) → Ok 0 23 4 [aR B, aI x2, aI (x2 + 1), aI (M (B + 4) x2)] [] g M Q)
    (K8 : x2 < (M B 2) → 0 < (M (B + 4) x2) → x1 ≠ (-1) → (M (B + 4) x2) ≤ (M (B + 4) x1) → Ok 0 23 4 [aR B, aI x1, aI (x2 + 1), aI (M (B + 4) x2)] [] g M Q)
    (K9 : x2 < (M B 2) → 0 < (M (B + 4) x2) → x1 ≠ (-1) → (M (B + 4) x1) < (M (B + 4) x2) → Ok 0 23 4 [aR B, aI x2, aI (x2 + 1), aI (M (B + 4) x2)] [] g M Q) :
    Ok 0 23 4 [aR B, aI x1, aI x2, w3] [] g M Q := by
  refine ok_iloadn (pc' := 5) i23_4 rfl rfl <| ok_aloadn (pc' := 6) i23_5 rfl rfl <| ok_getfi (v := (M B 2)) (pc' := 9) i23_6 o23 gi5_36 (ShState_k0 hSB) rfl rfl <| ?_
  refine ok_cge (pc1 := 50) (pc2 := 12) i23_9 (by clear q3 q5; omega) rfl rfl (fun h1 => ?_) (fun h1 => ?_)
  · refine ok_iloadn (pc' := 51) i23_50 rfl rfl <| ok_ireti i23_51 rt23 <| ?_
    exact K2 h1
  · refine ok_aloadn (pc' := 13) i23_12 rfl rfl <| ok_getfr (r := (B + 2)) (pc' := 16) i23_13 o23 gr5_17 (ShState_k0 hSB) (ShState_r3 hSB) rfl <| ok_iconst (pc' := 17) i23_16 rfl <| ok_aaload (r := (B + 4)) (pc' := 18) i23_17 (ShState_k2 hSB) (by decide) (ShState_l2 hSB) (by decide) (ShState_e2_1 hSB) rfl <| ok_iloadn (pc' := 19) i23_18 rfl rfl <| ok_iaload (v := (M (B + 4) x2)) (pc' := 20) i23_19 (ShState_k4 hSB) (by decide) (ShState_l4 hSB) (by have z0 := q3 h1; clear q3 q5; omega) rfl rfl <| ok_istoren (pc' := 21) (ls' := [aR B, aI x1, aI x2, aI (M (B + 4) x2)]) i23_20 (bt rfl) rfl rfl <| ok_iloadn (pc' := 22) i23_21 rfl rfl <| ?_
    refine ok_zle (pc1 := 44) (pc2 := 25) i23_22 ⟨(q3 h1).1, (q3 h1).2⟩ rfl rfl (fun h3 => ?_) (fun h3 => ?_)
    · refine ok_iinc (pc' := 47) (v := (x2 + 1)) (ls' := [aR B, aI x1, aI (x2 + 1), aI (M (B + 4) x2)]) i23_44 rfl rfl rfl rfl <| ok_goto (pc' := 4) i23_47 rfl <| ?_
      exact K4 h1 h3
    · refine ok_iloadn (pc' := 26) i23_25 rfl rfl <| ok_iconst (pc' := 27) i23_26 rfl <| ?_
      refine ok_ceq (pc1 := 42) (pc2 := 30) i23_27 (by have z0 := q3 h1; clear q3 q5; omega) rfl rfl (fun h5 => ?_) (fun h5 => ?_)
      · refine ok_iloadn (pc' := 43) i23_42 rfl rfl <| ok_istoren (pc' := 44) (ls' := [aR B, aI x2, aI x2, aI (M (B + 4) x2)]) i23_43 (bt rfl) rfl rfl <| ok_iinc (pc' := 47) (v := (x2 + 1)) (ls' := [aR B, aI x2, aI (x2 + 1), aI (M (B + 4) x2)]) i23_44 rfl rfl rfl rfl <| ok_goto (pc' := 4) i23_47 rfl <| ?_
        exact K6 h1 h3 h5
      · refine ok_iloadn (pc' := 31) i23_30 rfl rfl <| ok_aloadn (pc' := 32) i23_31 rfl rfl <| ok_getfr (r := (B + 2)) (pc' := 35) i23_32 o23 gr5_17 (ShState_k0 hSB) (ShState_r3 hSB) rfl <| ok_iconst (pc' := 36) i23_35 rfl <| ok_aaload (r := (B + 4)) (pc' := 37) i23_36 (ShState_k2 hSB) (by decide) (ShState_l2 hSB) (by decide) (ShState_e2_1 hSB) rfl <| ok_iloadn (pc' := 38) i23_37 rfl rfl <| ok_iaload (v := (M (B + 4) x1)) (pc' := 39) i23_38 (ShState_k4 hSB) (by decide) (ShState_l4 hSB) (by have z0 := q3 h1; have z1 := q5 h5; clear q3 q5; omega) rfl rfl <| ?_
        refine ok_cle (pc1 := 44) (pc2 := 42) i23_39 ⟨(q3 h1).1, (q3 h1).2, (q5 h5).1, (q5 h5).2⟩ rfl rfl (fun h7 => ?_) (fun h7 => ?_)
        · refine ok_iinc (pc' := 47) (v := (x2 + 1)) (ls' := [aR B, aI x1, aI (x2 + 1), aI (M (B + 4) x2)]) i23_44 rfl rfl rfl rfl <| ok_goto (pc' := 4) i23_47 rfl <| ?_
          exact K8 h1 h3 h5 h7
        · refine ok_iloadn (pc' := 43) i23_42 rfl rfl <| ok_istoren (pc' := 44) (ls' := [aR B, aI x2, aI x2, aI (M (B + 4) x2)]) i23_43 (bt rfl) rfl rfl <| ok_iinc (pc' := 47) (v := (x2 + 1)) (ls' := [aR B, aI x2, aI (x2 + 1), aI (M (B + 4) x2)]) i23_44 rfl rfl rfl rfl <| ok_goto (pc' := 4) i23_47 rfl <| ?_
          exact K9 h1 h3 h5 h7
def f23 (M : AM) (B : Nat) (x2 x1 : Int) : Int := (if (M (B + 4) x2) ≤ 0 then x1 else (if x1 = (-1) then x2 else (if (M (B + 4) x2) ≤ (M (B + 4) x1) then x1 else x2)))
def r23 (M : AM) (B : Nat) : Int := (itv (f23 M B) (-1) 0 (M B 2).toNat)
theorem t23 {g : AG} {M : AM} {B : Nat} (hSB : ShState g B) (h0 : 0 ≤ M B 2 ∧ M B 2 ≤ 80) (h4 : ∀ i : Int, 0 ≤ i → i < M B 2 → -2147483648 ≤ M (B + 4) i ∧ M (B + 4) i < 2147483648) :
    Ok 0 23 0 [aR B, aU, aU, aU] [] g M (Rt (some (aI (r23 M B))) g (fun M9 => M9 = M)) := by
  refine b23_0 hSB  ?_
  refine ok_for (lo := 0) (n := (M B 2).toNat) (f := (f23 M B)) (a0 := (-1)) (fun i a => -1 ≤ a ∧ a < i ∧ i ≤ M B 2) (fun i a ls => ∃ w3 : AV, am_cat w3 = 1 ∧ ls = [aR B, aI a, aI i, w3]) ?_ ?_ ?_ _ ⟨aU, rfl, rfl⟩
  · omega
  · rintro x2 x1 ls g1 g2 hinv ⟨w3, hw3, rfl⟩ ih
    have r4 := h4 x2
    have r5 := h4 x1
    refine b23_4 hSB hw3 (by omega) (by omega) (by omega) (by omega) (by omega) (by omega) (fun h1 => by omega) (fun h1 h3 => ?_) (fun h1 h3 h5 => ?_) (fun h1 h3 h5 h7 => ?_) (fun h1 h3 h5 h7 => ?_)
    · have e : f23 M B x2 x1 = x1 := by unfold f23; rw [if_pos h3]
      exact ih _ (by rw [e]; omega) (by rw [e]; exact ⟨_, rfl, rfl⟩)
    · have e : f23 M B x2 x1 = x2 := by unfold f23; rw [if_neg (by omega), if_pos h5]
      exact ih _ (by rw [e]; omega) (by rw [e]; exact ⟨_, rfl, rfl⟩)
    · have e : f23 M B x2 x1 = x1 := by unfold f23; rw [if_neg (by omega), if_neg (by omega), if_pos h7]
      exact ih _ (by rw [e]; omega) (by rw [e]; exact ⟨_, rfl, rfl⟩)
    · have e : f23 M B x2 x1 = x2 := by unfold f23; rw [if_neg (by omega), if_neg (by omega), if_neg (by omega)]
      exact ih _ (by rw [e]; omega) (by rw [e]; exact ⟨_, rfl, rfl⟩)
  · rintro ls hinv ⟨w3, hw3, rfl⟩
    have r4 := h4 (0 + ((M B 2).toNat : Nat))
    have r5 := h4 (itv (f23 M B) (-1) 0 (M B 2).toNat)
    refine b23_4 hSB hw3 (by omega) (by omega) (by omega) (by omega) (by omega) (by omega) (fun h1 => ⟨rfl, rfl, rfl⟩) (fun h1 h3 => by omega) (fun h1 h3 h5 => by omega) (fun h1 h3 h5 h7 => by omega) (fun h1 h3 h5 h7 => by omega)
theorem b24_0 {Q : AO → AG → AM → Prop} {g : AG} {M : AM}  {B : Nat} {x1 : Int}  (hSB : ShState g B)  
    (K1 : Ok 0 24 4 [aR B, aI x1, aI (-1), aI 0] [] g M Q) :
    Ok 0 24 0 [aR B, aI x1, aU, aU] [] g M Q := by
  refine ok_iconst (pc' := 1) i24_0 rfl <| ok_istoren (pc' := 2) (ls' := [aR B, aI x1, aI (-1), aU]) i24_1 (bt rfl) rfl rfl <| ok_iconst (pc' := 3) i24_2 rfl <| ok_istoren (pc' := 4) (ls' := [aR B, aI x1, aI (-1), aI 0]) i24_3 (bt rfl) rfl rfl <| ?_
  exact K1
theorem b24_4 {Q : AO → AG → AM → Prop} {g : AG} {M : AM}  {B : Nat} {x1 x2 x3 : Int}  (hSB : ShState g B)  (q0 : 0 ≤ x3) (q1 : -2147483648 ≤ x3 ∧ x3 < 2147483648) (q2 : 0 ≤ M B 4 ∧ M B 4 ≤ 16) (q3 : -2147483648 ≤ x1 ∧ x1 < 2147483648) (q4 : x3 < M B 4 → -2147483648 ≤ M (B + 9) x3 ∧ M (B + 9) x3 < 2147483648) (q5 : x3 < M B 4 → -2147483648 ≤ M (B + 13) x3 ∧ M (B + 13) x3 < 2147483648) (q6 : x3 < M B 4 → -2147483648 ≤ M (B + 12) x3 ∧ M (B + 12) x3 < 2147483648) (q7 : -1 ≤ x2 ∧ x2 < 16) (q8 : x2 ≠ -1 → -2147483648 ≤ M (B + 12) x2 ∧ M (B + 12) x2 < 2147483648)
    (K2 : (M B 4) ≤ x3 → Q (.inl (some (aI x2))) g M)
    (K4 : x3 < (M B 4) → (M (B + 13) x3) ≤ 0 → Ok 0 24 4 [aR B, aI x1, aI x2, aI (x3 + 1)] [] g M Q)
    (K6 : x3 < (M B 4) → 0 < (M (B + 13) x3) → x1 < (M (B + 9) x3) → Ok 0 24 4 [aR B, aI x1, aI x2, aI (x3 + 1)] [] g M Q)
    (K8 : x3 < (M B 4) → 0 < (M (B + 13) x3) → (M (B + 9) x3) ≤ x1 → x2 = (-1) → Ok 0 24 4 [aR B, aI x1, aI x3, aI (x3 + 1)] [] g M Q)
    (K10 : x3 < (M B 4) → 0 < (M (B + 13) x3) → (M (B + 9) x3) ≤ x1 → x2 ≠ (-1) → (M (B + 12) x2) ≤ (M (B + 12) x3) → Ok 0 24 4 [aR B, aI x1, aI x2, aI (x3 + 1)] [] g M Q)
    (K11 : x3 < (M B 4) → 0 < (M (B + 13) x3) → (M (B + 9) x3) ≤ x1 → x2 ≠ (-1) → (M (B + 12) x3) < (M (B + 12) x2) → Ok 0 24 4 [aR B, aI x1, aI x3, aI (x3 + 1)] [] g M Q) :
    Ok 0 24 4 [aR B, aI x1, aI x2, aI x3] [] g M Q := by
  refine ok_iloadn (pc' := 5) i24_4 rfl rfl <| ok_aloadn (pc' := 6) i24_5 rfl rfl <| ok_getfi (v := (M B 4)) (pc' := 9) i24_6 o24 gi5_39 (ShState_k0 hSB) rfl rfl <| ?_
  refine ok_cge (pc1 := 67) (pc2 := 12) i24_9 (by clear q4 q5 q6 q8; omega) rfl rfl (fun h1 => ?_) (fun h1 => ?_)
  · refine ok_iloadn (pc' := 68) i24_67 rfl rfl <| ok_ireti i24_68 rt24 <| ?_
    exact K2 h1
  · refine ok_aloadn (pc' := 13) i24_12 rfl rfl <| ok_getfr (r := (B + 8)) (pc' := 16) i24_13 o24 gr5_20 (ShState_k0 hSB) (ShState_r5 hSB) rfl <| ok_iconst (pc' := 17) i24_16 rfl <| ok_aaload (r := (B + 13)) (pc' := 18) i24_17 (ShState_k8 hSB) (by decide) (ShState_l8 hSB) (by decide) (ShState_e8_4 hSB) rfl <| ok_iloadn (pc' := 19) i24_18 rfl rfl <| ok_iaload (v := (M (B + 13) x3)) (pc' := 20) i24_19 (ShState_k13 hSB) (by decide) (ShState_l13 hSB) (by have z0 := q4 h1; have z1 := q5 h1; have z2 := q6 h1; clear q4 q5 q6 q8; omega) rfl rfl <| ?_
    refine ok_zle (pc1 := 61) (pc2 := 23) i24_20 ⟨(q5 h1).1, (q5 h1).2⟩ rfl rfl (fun h3 => ?_) (fun h3 => ?_)
    · refine ok_iinc (pc' := 64) (v := (x3 + 1)) (ls' := [aR B, aI x1, aI x2, aI (x3 + 1)]) i24_61 rfl rfl rfl rfl <| ok_goto (pc' := 4) i24_64 rfl <| ?_
      exact K4 h1 h3
    · refine ok_aloadn (pc' := 24) i24_23 rfl rfl <| ok_getfr (r := (B + 8)) (pc' := 27) i24_24 o24 gr5_20 (ShState_k0 hSB) (ShState_r5 hSB) rfl <| ok_iconst (pc' := 28) i24_27 rfl <| ok_aaload (r := (B + 9)) (pc' := 29) i24_28 (ShState_k8 hSB) (by decide) (ShState_l8 hSB) (by decide) (ShState_e8_0 hSB) rfl <| ok_iloadn (pc' := 30) i24_29 rfl rfl <| ok_iaload (v := (M (B + 9) x3)) (pc' := 31) i24_30 (ShState_k9 hSB) (by decide) (ShState_l9 hSB) (by have z0 := q4 h1; have z1 := q5 h1; have z2 := q6 h1; clear q4 q5 q6 q8; omega) rfl rfl <| ok_iloadn (pc' := 32) i24_31 rfl rfl <| ?_
      refine ok_cgt (pc1 := 61) (pc2 := 35) i24_32 ⟨(q4 h1).1, (q4 h1).2, q3.1, q3.2⟩ rfl rfl (fun h5 => ?_) (fun h5 => ?_)
      · refine ok_iinc (pc' := 64) (v := (x3 + 1)) (ls' := [aR B, aI x1, aI x2, aI (x3 + 1)]) i24_61 rfl rfl rfl rfl <| ok_goto (pc' := 4) i24_64 rfl <| ?_
        exact K6 h1 h3 h5
      · refine ok_iloadn (pc' := 36) i24_35 rfl rfl <| ok_iconst (pc' := 37) i24_36 rfl <| ?_
        refine ok_ceq (pc1 := 59) (pc2 := 40) i24_37 (by have z0 := q4 h1; have z1 := q5 h1; have z2 := q6 h1; clear q4 q5 q6 q8; omega) rfl rfl (fun h7 => ?_) (fun h7 => ?_)
        · refine ok_iloadn (pc' := 60) i24_59 rfl rfl <| ok_istoren (pc' := 61) (ls' := [aR B, aI x1, aI x3, aI x3]) i24_60 (bt rfl) rfl rfl <| ok_iinc (pc' := 64) (v := (x3 + 1)) (ls' := [aR B, aI x1, aI x3, aI (x3 + 1)]) i24_61 rfl rfl rfl rfl <| ok_goto (pc' := 4) i24_64 rfl <| ?_
          exact K8 h1 h3 h5 h7
        · refine ok_aloadn (pc' := 41) i24_40 rfl rfl <| ok_getfr (r := (B + 8)) (pc' := 44) i24_41 o24 gr5_20 (ShState_k0 hSB) (ShState_r5 hSB) rfl <| ok_iconst (pc' := 45) i24_44 rfl <| ok_aaload (r := (B + 12)) (pc' := 46) i24_45 (ShState_k8 hSB) (by decide) (ShState_l8 hSB) (by decide) (ShState_e8_3 hSB) rfl <| ok_iloadn (pc' := 47) i24_46 rfl rfl <| ok_iaload (v := (M (B + 12) x3)) (pc' := 48) i24_47 (ShState_k12 hSB) (by decide) (ShState_l12 hSB) (by have z0 := q4 h1; have z1 := q5 h1; have z2 := q6 h1; have z3 := q8 h7; clear q4 q5 q6 q8; omega) rfl rfl <| ok_aloadn (pc' := 49) i24_48 rfl rfl <| ok_getfr (r := (B + 8)) (pc' := 52) i24_49 o24 gr5_20 (ShState_k0 hSB) (ShState_r5 hSB) rfl <| ?_
          refine ok_iconst (pc' := 53) i24_52 rfl <| ok_aaload (r := (B + 12)) (pc' := 54) i24_53 (ShState_k8 hSB) (by decide) (ShState_l8 hSB) (by decide) (ShState_e8_3 hSB) rfl <| ok_iloadn (pc' := 55) i24_54 rfl rfl <| ok_iaload (v := (M (B + 12) x2)) (pc' := 56) i24_55 (ShState_k12 hSB) (by decide) (ShState_l12 hSB) (by have z0 := q4 h1; have z1 := q5 h1; have z2 := q6 h1; have z3 := q8 h7; clear q4 q5 q6 q8; omega) rfl rfl <| ?_
          refine ok_cge (pc1 := 61) (pc2 := 59) i24_56 ⟨(q6 h1).1, (q6 h1).2, (q8 h7).1, (q8 h7).2⟩ rfl rfl (fun h9 => ?_) (fun h9 => ?_)
          · refine ok_iinc (pc' := 64) (v := (x3 + 1)) (ls' := [aR B, aI x1, aI x2, aI (x3 + 1)]) i24_61 rfl rfl rfl rfl <| ok_goto (pc' := 4) i24_64 rfl <| ?_
            exact K10 h1 h3 h5 h7 h9
          · refine ok_iloadn (pc' := 60) i24_59 rfl rfl <| ok_istoren (pc' := 61) (ls' := [aR B, aI x1, aI x3, aI x3]) i24_60 (bt rfl) rfl rfl <| ok_iinc (pc' := 64) (v := (x3 + 1)) (ls' := [aR B, aI x1, aI x3, aI (x3 + 1)]) i24_61 rfl rfl rfl rfl <| ok_goto (pc' := 4) i24_64 rfl <| ?_
            exact K11 h1 h3 h5 h7 h9
def f24 (M : AM) (B : Nat) (x1 : Int) (x3 x2 : Int) : Int := (if (M (B + 13) x3) ≤ 0 then x2 else (if x1 < (M (B + 9) x3) then x2 else (if x2 = (-1) then x3 else (if (M (B + 12) x2) ≤ (M (B + 12) x3) then x2 else x3))))
def r24 (M : AM) (B : Nat) (x1 : Int) : Int := (itv (f24 M B x1) (-1) 0 (M B 4).toNat)
theorem t24 {g : AG} {M : AM} {B : Nat} {x1 : Int} (hSB : ShState g B) (h0 : 0 ≤ M B 4 ∧ M B 4 ≤ 16) (h1 : -2147483648 ≤ x1 ∧ x1 < 2147483648) (h9 : ∀ i : Int, 0 ≤ i → i < M B 4 → -2147483648 ≤ M (B + 9) i ∧ M (B + 9) i < 2147483648) (h13 : ∀ i : Int, 0 ≤ i → i < M B 4 → -2147483648 ≤ M (B + 13) i ∧ M (B + 13) i < 2147483648) (h12 : ∀ i : Int, 0 ≤ i → i < M B 4 → -2147483648 ≤ M (B + 12) i ∧ M (B + 12) i < 2147483648) :
    Ok 0 24 0 [aR B, aI x1, aU, aU] [] g M (Rt (some (aI (r24 M B x1))) g (fun M9 => M9 = M)) := by
  refine b24_0 hSB  ?_
  refine ok_for (lo := 0) (n := (M B 4).toNat) (f := (f24 M B x1)) (a0 := (-1)) (fun i a => -1 ≤ a ∧ a < i ∧ i ≤ M B 4) (fun i a ls => ls = [aR B, aI x1, aI a, aI i]) ?_ ?_ ?_ _ rfl
  · omega
  · rintro x3 x2 ls g1 g2 hinv rfl ih
    have r9 := h9 x3
    have r13 := h13 x3
    have r12 := h12 x3
    have r2 := h12 x2
    refine b24_4 hSB  (by omega) (by omega) (by omega) (by omega) (by omega) (by omega) (by omega) (by omega) (by omega) (fun h1 => by omega) (fun h1 h3 => ?_) (fun h1 h3 h5 => ?_) (fun h1 h3 h5 h7 => ?_) (fun h1 h3 h5 h7 h9 => ?_) (fun h1 h3 h5 h7 h9 => ?_)
    · have e : f24 M B x1 x3 x2 = x2 := by unfold f24; rw [if_pos h3]
      exact ih _ (by rw [e]; omega) (by rw [e])
    · have e : f24 M B x1 x3 x2 = x2 := by unfold f24; rw [if_neg (by omega), if_pos h5]
      exact ih _ (by rw [e]; omega) (by rw [e])
    · have e : f24 M B x1 x3 x2 = x3 := by unfold f24; rw [if_neg (by omega), if_neg (by omega), if_pos h7]
      exact ih _ (by rw [e]; omega) (by rw [e])
    · have e : f24 M B x1 x3 x2 = x2 := by unfold f24; rw [if_neg (by omega), if_neg (by omega), if_neg (by omega), if_pos h9]
      exact ih _ (by rw [e]; omega) (by rw [e])
    · have e : f24 M B x1 x3 x2 = x3 := by unfold f24; rw [if_neg (by omega), if_neg (by omega), if_neg (by omega), if_neg (by omega)]
      exact ih _ (by rw [e]; omega) (by rw [e])
  · rintro ls hinv rfl
    have r9 := h9 (0 + ((M B 4).toNat : Nat))
    have r13 := h13 (0 + ((M B 4).toNat : Nat))
    have r12 := h12 (0 + ((M B 4).toNat : Nat))
    have r2 := h12 (itv (f24 M B x1) (-1) 0 (M B 4).toNat)
    refine b24_4 hSB  (by omega) (by omega) (by omega) (by omega) (by omega) (by omega) (by omega) (by omega) (by omega) (fun h1 => ⟨rfl, rfl, rfl⟩) (fun h1 h3 => by omega) (fun h1 h3 h5 => by omega) (fun h1 h3 h5 h7 => by omega) (fun h1 h3 h5 h7 h9 => by omega) (fun h1 h3 h5 h7 h9 => by omega)
theorem b25_0 {Q : AO → AG → AM → Prop} {g : AG} {M : AM}  {B : Nat} {x1 : Int}  (hSB : ShState g B)  
    (K1 : Ok 0 25 4 [aR B, aI x1, aI (-1), aI 0] [] g M Q) :
    Ok 0 25 0 [aR B, aI x1, aU, aU] [] g M Q := by
  refine ok_iconst (pc' := 1) i25_0 rfl <| ok_istoren (pc' := 2) (ls' := [aR B, aI x1, aI (-1), aU]) i25_1 (bt rfl) rfl rfl <| ok_iconst (pc' := 3) i25_2 rfl <| ok_istoren (pc' := 4) (ls' := [aR B, aI x1, aI (-1), aI 0]) i25_3 (bt rfl) rfl rfl <| ?_
  exact K1
theorem b25_4 {Q : AO → AG → AM → Prop} {g : AG} {M : AM}  {B : Nat} {x1 x2 x3 : Int}  (hSB : ShState g B)  (q0 : 0 ≤ x3) (q1 : -2147483648 ≤ x3 ∧ x3 < 2147483648) (q2 : 0 ≤ M B 4 ∧ M B 4 ≤ 16) (q3 : -2147483648 ≤ x1 ∧ x1 < 2147483648) (q4 : x3 < M B 4 → -2147483648 ≤ M (B + 9) x3 ∧ M (B + 9) x3 < 2147483648) (q5 : x3 < M B 4 → -2147483648 ≤ M (B + 13) x3 ∧ M (B + 13) x3 < 2147483648) (q6 : x3 < M B 4 → -2147483648 ≤ M (B + 12) x3 ∧ M (B + 12) x3 < 2147483648) (q7 : -1 ≤ x2 ∧ x2 < 16) (q8 : x2 ≠ -1 → -2147483648 ≤ M (B + 12) x2 ∧ M (B + 12) x2 < 2147483648)
    (K2 : (M B 4) ≤ x3 → Q (.inl (some (aI x2))) g M)
    (K4 : x3 < (M B 4) → (M (B + 13) x3) ≤ 0 → Ok 0 25 4 [aR B, aI x1, aI x2, aI (x3 + 1)] [] g M Q)
    (K6 : x3 < (M B 4) → 0 < (M (B + 13) x3) → (M (B + 9) x3) ≠ x1 → Ok 0 25 4 [aR B, aI x1, aI x2, aI (x3 + 1)] [] g M Q)
    (K8 : x3 < (M B 4) → 0 < (M (B + 13) x3) → (M (B + 9) x3) = x1 → x2 = (-1) → Ok 0 25 4 [aR B, aI x1, aI x3, aI (x3 + 1)] [] g M Q)
    (K10 : x3 < (M B 4) → 0 < (M (B + 13) x3) → (M (B + 9) x3) = x1 → x2 ≠ (-1) → (M (B + 12) x2) ≤ (M (B + 12) x3) → Ok 0 25 4 [aR B, aI x1, aI x2, aI (x3 + 1)] [] g M Q)
    (K11 : x3 < (M B 4) → 0 < (M (B + 13) x3) → (M (B + 9) x3) = x1 → x2 ≠ (-1) → (M (B + 12) x3) < (M (B + 12) x2) → Ok 0 25 4 [aR B, aI x1, aI x3, aI (x3 + 1)] [] g M Q) :
    Ok 0 25 4 [aR B, aI x1, aI x2, aI x3] [] g M Q := by
  refine ok_iloadn (pc' := 5) i25_4 rfl rfl <| ok_aloadn (pc' := 6) i25_5 rfl rfl <| ok_getfi (v := (M B 4)) (pc' := 9) i25_6 o25 gi5_39 (ShState_k0 hSB) rfl rfl <| ?_
  refine ok_cge (pc1 := 67) (pc2 := 12) i25_9 (by clear q4 q5 q6 q8; omega) rfl rfl (fun h1 => ?_) (fun h1 => ?_)
  · refine ok_iloadn (pc' := 68) i25_67 rfl rfl <| ok_ireti i25_68 rt25 <| ?_
    exact K2 h1
  · refine ok_aloadn (pc' := 13) i25_12 rfl rfl <| ok_getfr (r := (B + 8)) (pc' := 16) i25_13 o25 gr5_20 (ShState_k0 hSB) (ShState_r5 hSB) rfl <| ok_iconst (pc' := 17) i25_16 rfl <| ok_aaload (r := (B + 13)) (pc' := 18) i25_17 (ShState_k8 hSB) (by decide) (ShState_l8 hSB) (by decide) (ShState_e8_4 hSB) rfl <| ok_iloadn (pc' := 19) i25_18 rfl rfl <| ok_iaload (v := (M (B + 13) x3)) (pc' := 20) i25_19 (ShState_k13 hSB) (by decide) (ShState_l13 hSB) (by have z0 := q4 h1; have z1 := q5 h1; have z2 := q6 h1; clear q4 q5 q6 q8; omega) rfl rfl <| ?_
    refine ok_zle (pc1 := 61) (pc2 := 23) i25_20 ⟨(q5 h1).1, (q5 h1).2⟩ rfl rfl (fun h3 => ?_) (fun h3 => ?_)
    · refine ok_iinc (pc' := 64) (v := (x3 + 1)) (ls' := [aR B, aI x1, aI x2, aI (x3 + 1)]) i25_61 rfl rfl rfl rfl <| ok_goto (pc' := 4) i25_64 rfl <| ?_
      exact K4 h1 h3
    · refine ok_aloadn (pc' := 24) i25_23 rfl rfl <| ok_getfr (r := (B + 8)) (pc' := 27) i25_24 o25 gr5_20 (ShState_k0 hSB) (ShState_r5 hSB) rfl <| ok_iconst (pc' := 28) i25_27 rfl <| ok_aaload (r := (B + 9)) (pc' := 29) i25_28 (ShState_k8 hSB) (by decide) (ShState_l8 hSB) (by decide) (ShState_e8_0 hSB) rfl <| ok_iloadn (pc' := 30) i25_29 rfl rfl <| ok_iaload (v := (M (B + 9) x3)) (pc' := 31) i25_30 (ShState_k9 hSB) (by decide) (ShState_l9 hSB) (by have z0 := q4 h1; have z1 := q5 h1; have z2 := q6 h1; clear q4 q5 q6 q8; omega) rfl rfl <| ok_iloadn (pc' := 32) i25_31 rfl rfl <| ?_
      refine ok_cne (pc1 := 61) (pc2 := 35) i25_32 ⟨(q4 h1).1, (q4 h1).2, q3.1, q3.2⟩ rfl rfl (fun h5 => ?_) (fun h5 => ?_)
      · refine ok_iinc (pc' := 64) (v := (x3 + 1)) (ls' := [aR B, aI x1, aI x2, aI (x3 + 1)]) i25_61 rfl rfl rfl rfl <| ok_goto (pc' := 4) i25_64 rfl <| ?_
        exact K6 h1 h3 h5
      · refine ok_iloadn (pc' := 36) i25_35 rfl rfl <| ok_iconst (pc' := 37) i25_36 rfl <| ?_
        refine ok_ceq (pc1 := 59) (pc2 := 40) i25_37 (by have z0 := q4 h1; have z1 := q5 h1; have z2 := q6 h1; clear q4 q5 q6 q8; omega) rfl rfl (fun h7 => ?_) (fun h7 => ?_)
        · refine ok_iloadn (pc' := 60) i25_59 rfl rfl <| ok_istoren (pc' := 61) (ls' := [aR B, aI x1, aI x3, aI x3]) i25_60 (bt rfl) rfl rfl <| ok_iinc (pc' := 64) (v := (x3 + 1)) (ls' := [aR B, aI x1, aI x3, aI (x3 + 1)]) i25_61 rfl rfl rfl rfl <| ok_goto (pc' := 4) i25_64 rfl <| ?_
          exact K8 h1 h3 h5 h7
        · refine ok_aloadn (pc' := 41) i25_40 rfl rfl <| ok_getfr (r := (B + 8)) (pc' := 44) i25_41 o25 gr5_20 (ShState_k0 hSB) (ShState_r5 hSB) rfl <| ok_iconst (pc' := 45) i25_44 rfl <| ok_aaload (r := (B + 12)) (pc' := 46) i25_45 (ShState_k8 hSB) (by decide) (ShState_l8 hSB) (by decide) (ShState_e8_3 hSB) rfl <| ok_iloadn (pc' := 47) i25_46 rfl rfl <| ok_iaload (v := (M (B + 12) x3)) (pc' := 48) i25_47 (ShState_k12 hSB) (by decide) (ShState_l12 hSB) (by have z0 := q4 h1; have z1 := q5 h1; have z2 := q6 h1; have z3 := q8 h7; clear q4 q5 q6 q8; omega) rfl rfl <| ok_aloadn (pc' := 49) i25_48 rfl rfl <| ok_getfr (r := (B + 8)) (pc' := 52) i25_49 o25 gr5_20 (ShState_k0 hSB) (ShState_r5 hSB) rfl <| ?_
          refine ok_iconst (pc' := 53) i25_52 rfl <| ok_aaload (r := (B + 12)) (pc' := 54) i25_53 (ShState_k8 hSB) (by decide) (ShState_l8 hSB) (by decide) (ShState_e8_3 hSB) rfl <| ok_iloadn (pc' := 55) i25_54 rfl rfl <| ok_iaload (v := (M (B + 12) x2)) (pc' := 56) i25_55 (ShState_k12 hSB) (by decide) (ShState_l12 hSB) (by have z0 := q4 h1; have z1 := q5 h1; have z2 := q6 h1; have z3 := q8 h7; clear q4 q5 q6 q8; omega) rfl rfl <| ?_
          refine ok_cge (pc1 := 61) (pc2 := 59) i25_56 ⟨(q6 h1).1, (q6 h1).2, (q8 h7).1, (q8 h7).2⟩ rfl rfl (fun h9 => ?_) (fun h9 => ?_)
          · refine ok_iinc (pc' := 64) (v := (x3 + 1)) (ls' := [aR B, aI x1, aI x2, aI (x3 + 1)]) i25_61 rfl rfl rfl rfl <| ok_goto (pc' := 4) i25_64 rfl <| ?_
            exact K10 h1 h3 h5 h7 h9
          · refine ok_iloadn (pc' := 60) i25_59 rfl rfl <| ok_istoren (pc' := 61) (ls' := [aR B, aI x1, aI x3, aI x3]) i25_60 (bt rfl) rfl rfl <| ok_iinc (pc' := 64) (v := (x3 + 1)) (ls' := [aR B, aI x1, aI x3, aI (x3 + 1)]) i25_61 rfl rfl rfl rfl <| ok_goto (pc' := 4) i25_64 rfl <| ?_
            exact K11 h1 h3 h5 h7 h9
def f25 (M : AM) (B : Nat) (x1 : Int) (x3 x2 : Int) : Int := (if (M (B + 13) x3) ≤ 0 then x2 else (if (M (B + 9) x3) ≠ x1 then x2 else (if x2 = (-1) then x3 else (if (M (B + 12) x2) ≤ (M (B + 12) x3) then x2 else x3))))
def r25 (M : AM) (B : Nat) (x1 : Int) : Int := (itv (f25 M B x1) (-1) 0 (M B 4).toNat)
theorem t25 {g : AG} {M : AM} {B : Nat} {x1 : Int} (hSB : ShState g B) (h0 : 0 ≤ M B 4 ∧ M B 4 ≤ 16) (h1 : -2147483648 ≤ x1 ∧ x1 < 2147483648) (h9 : ∀ i : Int, 0 ≤ i → i < M B 4 → -2147483648 ≤ M (B + 9) i ∧ M (B + 9) i < 2147483648) (h13 : ∀ i : Int, 0 ≤ i → i < M B 4 → -2147483648 ≤ M (B + 13) i ∧ M (B + 13) i < 2147483648) (h12 : ∀ i : Int, 0 ≤ i → i < M B 4 → -2147483648 ≤ M (B + 12) i ∧ M (B + 12) i < 2147483648) :
    Ok 0 25 0 [aR B, aI x1, aU, aU] [] g M (Rt (some (aI (r25 M B x1))) g (fun M9 => M9 = M)) := by
  refine b25_0 hSB  ?_
  refine ok_for (lo := 0) (n := (M B 4).toNat) (f := (f25 M B x1)) (a0 := (-1)) (fun i a => -1 ≤ a ∧ a < i ∧ i ≤ M B 4) (fun i a ls => ls = [aR B, aI x1, aI a, aI i]) ?_ ?_ ?_ _ rfl
  · omega
  · rintro x3 x2 ls g1 g2 hinv rfl ih
    have r9 := h9 x3
    have r13 := h13 x3
    have r12 := h12 x3
    have r2 := h12 x2
    refine b25_4 hSB  (by omega) (by omega) (by omega) (by omega) (by omega) (by omega) (by omega) (by omega) (by omega) (fun h1 => by omega) (fun h1 h3 => ?_) (fun h1 h3 h5 => ?_) (fun h1 h3 h5 h7 => ?_) (fun h1 h3 h5 h7 h9 => ?_) (fun h1 h3 h5 h7 h9 => ?_)
    · have e : f25 M B x1 x3 x2 = x2 := by unfold f25; rw [if_pos h3]
      exact ih _ (by rw [e]; omega) (by rw [e])
    · have e : f25 M B x1 x3 x2 = x2 := by unfold f25; rw [if_neg (by omega), if_pos h5]
      exact ih _ (by rw [e]; omega) (by rw [e])
    · have e : f25 M B x1 x3 x2 = x3 := by unfold f25; rw [if_neg (by omega), if_neg (by omega), if_pos h7]
      exact ih _ (by rw [e]; omega) (by rw [e])
    · have e : f25 M B x1 x3 x2 = x2 := by unfold f25; rw [if_neg (by omega), if_neg (by omega), if_neg (by omega), if_pos h9]
      exact ih _ (by rw [e]; omega) (by rw [e])
    · have e : f25 M B x1 x3 x2 = x3 := by unfold f25; rw [if_neg (by omega), if_neg (by omega), if_neg (by omega), if_neg (by omega)]
      exact ih _ (by rw [e]; omega) (by rw [e])
  · rintro ls hinv rfl
    have r9 := h9 (0 + ((M B 4).toNat : Nat))
    have r13 := h13 (0 + ((M B 4).toNat : Nat))
    have r12 := h12 (0 + ((M B 4).toNat : Nat))
    have r2 := h12 (itv (f25 M B x1) (-1) 0 (M B 4).toNat)
    refine b25_4 hSB  (by omega) (by omega) (by omega) (by omega) (by omega) (by omega) (by omega) (by omega) (by omega) (fun h1 => ⟨rfl, rfl, rfl⟩) (fun h1 h3 => by omega) (fun h1 h3 h5 => by omega) (fun h1 h3 h5 h7 => by omega) (fun h1 h3 h5 h7 h9 => by omega) (fun h1 h3 h5 h7 h9 => by omega)
theorem b27_0 {Q : AO → AG → AM → Prop} {g : AG} {M : AM}  {B : Nat} {x1 : Int}  (hSB : ShState g B)  
    (K1 : Ok 0 27 4 [aR B, aI x1, aI (-1), aI 0, aU] [] g M Q) :
    Ok 0 27 0 [aR B, aI x1, aU, aU, aU] [] g M Q := by
  refine ok_iconst (pc' := 1) i27_0 rfl <| ok_istoren (pc' := 2) (ls' := [aR B, aI x1, aI (-1), aU, aU]) i27_1 (bt rfl) rfl rfl <| ok_iconst (pc' := 3) i27_2 rfl <| ok_istoren (pc' := 4) (ls' := [aR B, aI x1, aI (-1), aI 0, aU]) i27_3 (bt rfl) rfl rfl <| ?_
  exact K1
theorem b27_4 {Q : AO → AG → AM → Prop} {g : AG} {M : AM}  {B : Nat} {x1 x2 x3 : Int} {w4 : AV}  (hSB : ShState g B) (hw4 : am_cat w4 = 1) (q0 : 0 ≤ x3) (q1 : -2147483648 ≤ x3 ∧ x3 < 2147483648) (q2 : 0 ≤ M B 4 ∧ M B 4 ≤ 16) (q3 : -2147483648 ≤ x1 ∧ x1 < 2147483648) (q4 : -2147483648 ≤ x2 ∧ x2 < 2147483648) (q5 : x3 < M B 4 → -2147483648 ≤ M (B + 9) x3 ∧ M (B + 9) x3 < 2147483648) (q6 : x3 < M B 4 → -2147483648 ≤ M (B + 13) x3 ∧ M (B + 13) x3 < 2147483648)
    (K2 : (M B 4) ≤ x3 → Q (.inl (some (aI x2))) g M)
    (K4 : x3 < (M B 4) → (M (B + 13) x3) ≤ 0 → Ok 0 27 4 [aR B, aI x1, aI x2, aI (x3 + 1), aI (M (B + 9) x3)] [] g M Q)
    (K6 : x3 < (M B 4) → 0 < (M (B + 13) x3) → x1 < (M (B + 9) x3) → Ok 0 27 4 [aR B, aI x1, aI x2, aI (x3 + 1), aI (M (B + 9) x3)] [] g M Q)
    (K8 : x3 < (M B 4) → 0 < (M (B + 13) x3) → (M (B + 9) x3) ≤ x1 → (M (B + 9) x3) ≤ x2 → Ok 0 27 4 [aR B, aI x1, aI x2, aI (x3 + 1), aI (M (B + 9) x3)] [] g M Q)
    (K9 : x3 < (M B 4) → 0 < (M (B + 13) x3) → (M (B + 9) x3) ≤ x1 → x2 < (M (B + 9) x3) → Ok 0 27 4 [aR B, aI x1, aI (M (B + 9) x3), aI (x3 + 1), aI (M (B + 9) x3)] [] g M Q) :
    Ok 0 27 4 [aR B, aI x1, aI x2, aI x3, w4] [] g M Q := by
  refine ok_iloadn (pc' := 5) i27_4 rfl rfl <| ok_aloadn (pc' := 6) i27_5 rfl rfl <| ok_getfi (v := (M B 4)) (pc' := 9) i27_6 o27 gi5_39 (ShState_k0 hSB) rfl rfl <| ?_
  refine ok_cge (pc1 := 54) (pc2 := 12) i27_9 (by clear q5 q6; omega) rfl rfl (fun h1 => ?_) (fun h1 => ?_)
  · refine ok_iloadn (pc' := 55) i27_54 rfl rfl <| ok_ireti i27_55 rt27 <| ?_
    exact K2 h1
  · refine ok_aloadn (pc' := 13) i27_12 rfl rfl <| ok_getfr (r := (B + 8)) (pc' := 16) i27_13 o27 gr5_20 (ShState_k0 hSB) (ShState_r5 hSB) rfl <| ok_iconst (pc' := 17) i27_16 rfl <| ok_aaload (r := (B + 9)) (pc' := 18) i27_17 (ShState_k8 hSB) (by decide) (ShState_l8 hSB) (by decide) (ShState_e8_0 hSB) rfl <| ok_iloadn (pc' := 19) i27_18 rfl rfl <| ok_iaload (v := (M (B + 9) x3)) (pc' := 20) i27_19 (ShState_k9 hSB) (by decide) (ShState_l9 hSB) (by have z0 := q5 h1; have z1 := q6 h1; clear q5 q6; omega) rfl rfl <| ok_istore (pc' := 22) (ls' := [aR B, aI x1, aI x2, aI x3, aI (M (B + 9) x3)]) i27_20 (bt rfl) rfl rfl <| ok_aloadn (pc' := 23) i27_22 rfl rfl <| ?_
    refine ok_getfr (r := (B + 8)) (pc' := 26) i27_23 o27 gr5_20 (ShState_k0 hSB) (ShState_r5 hSB) rfl <| ok_iconst (pc' := 27) i27_26 rfl <| ok_aaload (r := (B + 13)) (pc' := 28) i27_27 (ShState_k8 hSB) (by decide) (ShState_l8 hSB) (by decide) (ShState_e8_4 hSB) rfl <| ok_iloadn (pc' := 29) i27_28 rfl rfl <| ok_iaload (v := (M (B + 13) x3)) (pc' := 30) i27_29 (ShState_k13 hSB) (by decide) (ShState_l13 hSB) (by have z0 := q5 h1; have z1 := q6 h1; clear q5 q6; omega) rfl rfl <| ?_
    refine ok_zle (pc1 := 48) (pc2 := 33) i27_30 ⟨(q6 h1).1, (q6 h1).2⟩ rfl rfl (fun h3 => ?_) (fun h3 => ?_)
    · refine ok_iinc (pc' := 51) (v := (x3 + 1)) (ls' := [aR B, aI x1, aI x2, aI (x3 + 1), aI (M (B + 9) x3)]) i27_48 rfl rfl rfl rfl <| ok_goto (pc' := 4) i27_51 rfl <| ?_
      exact K4 h1 h3
    · refine ok_iload (pc' := 35) i27_33 rfl rfl <| ok_iloadn (pc' := 36) i27_35 rfl rfl <| ?_
      refine ok_cgt (pc1 := 48) (pc2 := 39) i27_36 ⟨(q5 h1).1, (q5 h1).2, q3.1, q3.2⟩ rfl rfl (fun h5 => ?_) (fun h5 => ?_)
      · refine ok_iinc (pc' := 51) (v := (x3 + 1)) (ls' := [aR B, aI x1, aI x2, aI (x3 + 1), aI (M (B + 9) x3)]) i27_48 rfl rfl rfl rfl <| ok_goto (pc' := 4) i27_51 rfl <| ?_
        exact K6 h1 h3 h5
      · refine ok_iload (pc' := 41) i27_39 rfl rfl <| ok_iloadn (pc' := 42) i27_41 rfl rfl <| ?_
        refine ok_cle (pc1 := 48) (pc2 := 45) i27_42 ⟨(q5 h1).1, (q5 h1).2, q4.1, q4.2⟩ rfl rfl (fun h7 => ?_) (fun h7 => ?_)
        · refine ok_iinc (pc' := 51) (v := (x3 + 1)) (ls' := [aR B, aI x1, aI x2, aI (x3 + 1), aI (M (B + 9) x3)]) i27_48 rfl rfl rfl rfl <| ok_goto (pc' := 4) i27_51 rfl <| ?_
          exact K8 h1 h3 h5 h7
        · refine ok_iload (pc' := 47) i27_45 rfl rfl <| ok_istoren (pc' := 48) (ls' := [aR B, aI x1, aI (M (B + 9) x3), aI x3, aI (M (B + 9) x3)]) i27_47 (bt rfl) rfl rfl <| ok_iinc (pc' := 51) (v := (x3 + 1)) (ls' := [aR B, aI x1, aI (M (B + 9) x3), aI (x3 + 1), aI (M (B + 9) x3)]) i27_48 rfl rfl rfl rfl <| ok_goto (pc' := 4) i27_51 rfl <| ?_
          exact K9 h1 h3 h5 h7
def f27 (M : AM) (B : Nat) (x1 : Int) (x3 x2 : Int) : Int := (if (M (B + 13) x3) ≤ 0 then x2 else (if x1 < (M (B + 9) x3) then x2 else (if (M (B + 9) x3) ≤ x2 then x2 else (M (B + 9) x3))))
def r27 (M : AM) (B : Nat) (x1 : Int) : Int := (itv (f27 M B x1) (-1) 0 (M B 4).toNat)
theorem t27 {g : AG} {M : AM} {B : Nat} {x1 : Int} (hSB : ShState g B) (h0 : 0 ≤ M B 4 ∧ M B 4 ≤ 16) (h1 : -2147483648 ≤ x1 ∧ x1 < 2147483648) (h9 : ∀ i : Int, 0 ≤ i → i < M B 4 → -2147483648 ≤ M (B + 9) i ∧ M (B + 9) i < 2147483648) (h13 : ∀ i : Int, 0 ≤ i → i < M B 4 → -2147483648 ≤ M (B + 13) i ∧ M (B + 13) i < 2147483648) :
    Ok 0 27 0 [aR B, aI x1, aU, aU, aU] [] g M (Rt (some (aI (r27 M B x1))) g (fun M9 => M9 = M)) := by
  refine b27_0 hSB  ?_
  refine ok_for (lo := 0) (n := (M B 4).toNat) (f := (f27 M B x1)) (a0 := (-1)) (fun i a => -2147483648 ≤ a ∧ a < 2147483648 ∧ i ≤ M B 4) (fun i a ls => ∃ w4 : AV, am_cat w4 = 1 ∧ ls = [aR B, aI x1, aI a, aI i, w4]) ?_ ?_ ?_ _ ⟨aU, rfl, rfl⟩
  · omega
  · rintro x3 x2 ls g1 g2 hinv ⟨w4, hw4, rfl⟩ ih
    have r9 := h9 x3
    have r13 := h13 x3
    refine b27_4 hSB hw4 (by omega) (by omega) (by omega) (by omega) (by omega) (by omega) (by omega) (fun h1 => by omega) (fun h1 h3 => ?_) (fun h1 h3 h5 => ?_) (fun h1 h3 h5 h7 => ?_) (fun h1 h3 h5 h7 => ?_)
    · have e : f27 M B x1 x3 x2 = x2 := by unfold f27; rw [if_pos h3]
      exact ih _ (by rw [e]; omega) (by rw [e]; exact ⟨_, rfl, rfl⟩)
    · have e : f27 M B x1 x3 x2 = x2 := by unfold f27; rw [if_neg (by omega), if_pos h5]
      exact ih _ (by rw [e]; omega) (by rw [e]; exact ⟨_, rfl, rfl⟩)
    · have e : f27 M B x1 x3 x2 = x2 := by unfold f27; rw [if_neg (by omega), if_neg (by omega), if_pos h7]
      exact ih _ (by rw [e]; omega) (by rw [e]; exact ⟨_, rfl, rfl⟩)
    · have e : f27 M B x1 x3 x2 = (M (B + 9) x3) := by unfold f27; rw [if_neg (by omega), if_neg (by omega), if_neg (by omega)]
      exact ih _ (by rw [e]; omega) (by rw [e]; exact ⟨_, rfl, rfl⟩)
  · rintro ls hinv ⟨w4, hw4, rfl⟩
    have r9 := h9 (0 + ((M B 4).toNat : Nat))
    have r13 := h13 (0 + ((M B 4).toNat : Nat))
    refine b27_4 hSB hw4 (by omega) (by omega) (by omega) (by omega) (by omega) (by omega) (by omega) (fun h1 => ⟨rfl, rfl, rfl⟩) (fun h1 h3 => by omega) (fun h1 h3 h5 => by omega) (fun h1 h3 h5 h7 => by omega) (fun h1 h3 h5 h7 => by omega)
