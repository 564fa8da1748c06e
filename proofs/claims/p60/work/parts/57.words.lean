/-! WORDS: the class (by program, wip/gen) -/
/-! WORDS AND NUMBERS: the class -/
def eqW (by_ tx : Int → Int) (st : Int) : Nat → Bool
  | 0 => true
  | k + 1 => eqW by_ tx st k && decide (by_ (st + k) = tx k)
theorem eqW_t {by_ tx : Int → Int} {st : Int} : ∀ k : Nat, (∀ i : Int, 0 ≤ i → i < k → by_ (st + i) = tx i) → eqW by_ tx st k = true := by
  intro k
  induction k with
  | zero => exact fun _ => rfl
  | succ k ih => exact fun h => by rw [eqW, ih (fun i h0 h1 => h i h0 (by omega)), decide_eq_true (h k (by omega) (by omega))]; rfl
theorem eqW_f {by_ tx : Int → Int} {st : Int} : ∀ k : Nat, eqW by_ tx st k = true → ∀ i : Int, 0 ≤ i → i < k → by_ (st + i) = tx i := by
  intro k
  induction k with
  | zero => intro _ i h0 h1; omega
  | succ k ih =>
    intro h i h0 h1
    rw [eqW, Bool.and_eq_true] at h
    by_cases hi : i = k
    · rw [hi]; exact of_decide_eq_true h.2
    · exact ih h.1 i h0 (by omega)
def wdB (by_ tx : Int → Int) (m : Nat) (st en ty : Int) : Int := if ty = 0 ∧ en - st = m ∧ eqW by_ tx st m = true then 1 else 0
def Wd (g : AG) (M : AM) (c m : Nat) (tx : Int → Int) : Prop := ShStr g c m ∧ m ≤ 8 ∧ ∀ i : Int, 0 ≤ i → i < m → M (c + 1) i = tx i ∧ 0 ≤ tx i ∧ tx i < 128
theorem Wd.fr {g : AG} {M M9 : AM} {c m : Nat} {tx : Int → Int} (h : Wd g M c m tx) (hM : M9 (c + 1) = M (c + 1)) : Wd g M9 c m tx := ⟨h.1, h.2.1, fun i h0 h1 => by rw [hM]; exact h.2.2 i h0 h1⟩
theorem wdB_rg {by_ tx : Int → Int} {m : Nat} {st en ty : Int} : 0 ≤ wdB by_ tx m st en ty ∧ wdB by_ tx m st en ty ≤ 1 := by
  unfold wdB; split <;> omega
theorem t1w {g : AG} {M : AM} {c m : Nat} {tx : Int → Int} {l : Int} (h : Wd g M c m tx) (hl : (m : Int) = l) : Ok 1 1 0 [aR c] [] g M (Rt (some (aI l)) g (fun M9 => M9 = M)) := by rw [← hl]; exact t1 h.1 (by have := h.2.1; omega)
theorem t2w {g : AG} {M : AM} {c m : Nat} {tx : Int → Int} {l x1 : Int} (h : Wd g M c m tx) (hl : (m : Int) = l) (h1 : 0 ≤ x1 ∧ x1 < l) : Ok 3 2 0 [aR c, aI x1] [] g M (Rt (some (aI (tx x1))) g (fun M9 => M9 = M)) := t2 h.1 (by have := h.2.1; omega) h.2.2 (by omega)
def nuC (by_ : Int → Int) (n lo hi a : Int) : Int := if tyS by_ n a ≠ 1 then 1 else if lo ≤ vaS by_ n a ∧ vaS by_ n a ≤ hi then 0 else 2
def nuB (by_ : Int → Int) (n lo hi a : Int) : Int := if nuC by_ n lo hi a = 0 then 1 else 0
theorem nuB_rg {by_ : Int → Int} {n lo hi a : Int} : 0 ≤ nuB by_ n lo hi a ∧ nuB by_ n lo hi a ≤ 1 := by
  unfold nuB; split <;> omega
theorem nu_ok {by_ : Int → Int} {n lo hi a : Int} (h : nuB by_ n lo hi a ≠ 0) : nuC by_ n lo hi a = 0 ∧ tyS by_ n a = 1 ∧ lo ≤ vaS by_ n a ∧ vaS by_ n a ≤ hi := by
  unfold nuB at h
  split at h
  · next h1 =>
    refine ⟨h1, ?_⟩
    unfold nuC at h1
    split at h1
    · omega
    · split at h1
      · omega
      · omega
  · omega
theorem nu_bad {by_ : Int → Int} {n lo hi a : Int} (h : nuB by_ n lo hi a = 0) : nuC by_ n lo hi a ≠ 0 := by
  unfold nuB at h
  split at h
  · omega
  · assumption
def dgB (by_ : Int → Int) (n a : Int) : Int := if stS by_ n a < n ∧ pD (by_ (stS by_ n a)) = true then 1 else 0
theorem gi3_40 : am_gfi 3 40 3 6 = true := by decide +kernel
theorem o77 : am_oc 77 = 3 := by decide +kernel
theorem rt77 : am_rt 77 = some .boolean := by decide +kernel
theorem m3_150 : am_mlk 3 150 0 1 = true := by decide +kernel
theorem m3_156 : am_mlk 3 156 0 2 = true := by decide +kernel
theorem o79 : am_oc 79 = 3 := by decide +kernel
theorem m3_37 : am_mlk 3 37 0 71 = true := by decide +kernel
theorem na71 : am_na 71 = 0 := by decide +kernel
theorem nl71 : am_nL 71 = 1 := by decide +kernel
theorem pd71 : ∀ a0 : AV, am_pad 71 [a0] = [a0] := by intros; unfold am_pad; rw [nl71]; rfl
theorem ln71 : 1 ≤ am_nL 71 := by rw [nl71]; decide
theorem m3_44 : am_mlk 3 44 0 78 = true := by decide +kernel
theorem na78 : am_na 78 = 1 := by decide +kernel
theorem nl78 : am_nL 78 = 2 := by decide +kernel
theorem pd78 : ∀ a0 a1 : AV, am_pad 78 [a0, a1] = [a0, a1] := by intros; unfold am_pad; rw [nl78]; rfl
theorem ln78 : 2 ≤ am_nL 78 := by rw [nl78]; decide
theorem o78 : am_oc 78 = 3 := by decide +kernel
theorem pi78_147 : am_pfi 78 3 147 3 8 = true := by decide +kernel
theorem rt78 : am_rt 78 = some .boolean := by decide +kernel
theorem rt79 : am_rt 79 = some .boolean := by decide +kernel
theorem o70 : am_oc 70 = 3 := by decide +kernel
theorem m3_101 : am_mlk 3 101 0 77 = true := by decide +kernel
theorem na77 : am_na 77 = 1 := by decide +kernel
theorem nl77 : am_nL 77 = 3 := by decide +kernel
theorem pd77 : ∀ a0 a1 : AV, am_pad 77 [a0, a1] = [a0, a1, aU] := by intros; unfold am_pad; rw [nl77]; rfl
theorem ln77 : 2 ≤ am_nL 77 := by rw [nl77]; decide
theorem rt70 : am_rt 70 = some .boolean := by decide +kernel
theorem o85 : am_oc 85 = 3 := by decide +kernel
theorem rt85 : am_rt 85 = some .boolean := by decide +kernel
theorem t77 {g : AG} {M : AM} {J Z P B c m : Nat} {by_ tx : Int → Int} {st en ty : Int} (hSJ : ShParser g J Z P B) (hSZ : ShBytes g Z) (hZ : InZ M Z by_) (hW : Wd g M c m tx) (j4 : M J 4 = en) (j5 : M J 5 = st) (j6 : M J 6 = ty) (hse : 0 ≤ st ∧ st ≤ en) (hen : en ≤ 700) (ht0 : 0 ≤ ty ∧ ty ≤ 4) :
    Ok 4 77 0 [aR J, aR c, aU] [] g M (Rt (some (aI (wdB by_ tx m st en ty))) g (fun M9 => M9 = M)) := by
  obtain ⟨l, hl⟩ : ∃ l : Int, (m : Int) = l := ⟨_, rfl⟩
  have hl0 : 0 ≤ l ∧ l ≤ 8 := by have := hW.2.1; omega
  have hSc := hW.1
  refine ok_aloadn (pc' := 1) i77_0 rfl rfl <| ok_getfi (v := ty) (pc' := 4) i77_1 o77 gi3_40 (ShParser_k0 hSJ) j6 rfl <| ?_
  refine ok_zne (pc1 := 23) (pc2 := 7) i77_4 (by omega) rfl rfl (fun h1 => ?_) (fun h1 => ?_)
  · refine ok_iconst (pc' := 24) i77_23 rfl <| ok_iretz i77_24 rt77 (by decide) <| ?_
    exact ⟨by rw [show wdB by_ tx m st en ty = 0 from if_neg (by rintro ⟨h7, h8, h9⟩; omega)], rfl, rfl⟩
  · refine ok_aloadn (pc' := 8) i77_7 rfl rfl <| ok_getfi (v := en) (pc' := 11) i77_8 o77 gi3_60 (ShParser_k0 hSJ) j4 rfl <| ok_aloadn (pc' := 12) i77_11 rfl rfl <| ok_getfi (v := st) (pc' := 15) i77_12 o77 gi3_75 (ShParser_k0 hSJ) j5 rfl <| ok_isub (v := (en - st)) (pc' := 16) i77_15 rfl rfl <| ok_aloadn (pc' := 17) i77_16 rfl rfl <| ok_cp (pc' := 20) (d0 := 1) i77_17 rfl (cl_v o77 m3_150 na1 rfl rfl (bt rfl) (bt rfl) rfl (by rw [ShStr_k0 hSc, o1])) ln1 (pd1 (aR c)) (by omega) (t1w hW hl) rfl <| ?_
    refine ok_ceq (pc1 := 25) (pc2 := 23) i77_20 (by omega) rfl rfl (fun h2 => ?_) (fun h2 => ?_)
    · refine ok_iconst (pc' := 26) i77_25 rfl <| ok_istoren (pc' := 27) (ls' := [aR J, aR c, aI 0]) i77_26 (bt rfl) rfl rfl <| ?_
      have hty : ty = 0 := by omega
      have hel : en - st = l := by omega
      refine ok_while (σ := Int) (fun x ls M9 => (0 ≤ x ∧ x ≤ l) ∧ (∀ i : Int, 0 ≤ i → i < x → by_ (st + i) = tx i) ∧ M9 = M ∧ ls = [aR J, aR c, aI x]) (fun x => (l - x).toNat) ?_ 0 _ M ⟨by omega, fun i h7 h8 => by omega, rfl, rfl⟩
      rintro x ls M9 ⟨hx, hE, rfl, rfl⟩ ih
      refine ok_iloadn (pc' := 28) i77_27 rfl rfl <| ok_aloadn (pc' := 29) i77_28 rfl rfl <| ok_cp (pc' := 32) (d0 := 1) i77_29 rfl (cl_v o77 m3_150 na1 rfl rfl (bt rfl) (bt rfl) rfl (by rw [ShStr_k0 hSc, o1])) ln1 (pd1 (aR c)) (by omega) (t1w hW hl) rfl <| ?_
      refine ok_cge (pc1 := 62) (pc2 := 35) i77_32 (by omega) rfl rfl (fun h1 => ?_) (fun h1 => ?_)
      · refine ok_iconst (pc' := 63) i77_62 rfl <| ok_iretz i77_63 rt77 (by decide) <| ?_
        exact ⟨by rw [show wdB by_ tx m st en ty = 1 from if_pos ⟨by omega, by omega, eqW_t m (fun i h7 h8 => hE i h7 (by omega))⟩], rfl, rfl⟩
      · refine ok_aloadn (pc' := 36) i77_35 rfl rfl <| ok_getfr (r := Z) (pc' := 39) i77_36 o77 gr3_25 (ShParser_k0 hSJ) (ShParser_r0 hSJ) rfl <| ok_aloadn (pc' := 40) i77_39 rfl rfl <| ok_getfi (v := st) (pc' := 43) i77_40 o77 gi3_75 (ShParser_k0 hSJ) j5 rfl <| ok_iloadn (pc' := 44) i77_43 rfl rfl <| ok_iadd (v := (st + x)) (pc' := 45) i77_44 rfl rfl <| ?_
        have z61 : -128 ≤ (by_ (st + x)) ∧ (by_ (st + x)) < 128 := (hZ (st + x) (by omega) (by omega)).2
        refine ok_baload (v := (by_ (st + x))) (pc' := 46) i77_45 (ShBytes_k0 hSZ) (by decide) (ShBytes_l0 hSZ) (by omega) (hZ (st + x) (by omega) (by omega)).1 rfl <| ok_aloadn (pc' := 47) i77_46 rfl rfl <| ok_iloadn (pc' := 48) i77_47 rfl rfl <| ok_cp (pc' := 51) (d0 := 3) i77_48 rfl (cl_v o77 m3_156 na2 rfl rfl (bt rfl) (bt rfl) rfl (by rw [ShStr_k0 hSc, o2])) ln2 (pd2 (aR c) (aI x)) (by omega) (t2w (x1 := x) hW hl (by omega)) rfl <| ?_
        have z62 : 0 ≤ (tx x) ∧ (tx x) < 128 := (hW.2.2 x (by omega) (by omega)).2
        refine ok_ceq (pc1 := 56) (pc2 := 54) i77_51 (by omega) rfl rfl (fun h2 => ?_) (fun h2 => ?_)
        · refine ok_iinc (pc' := 59) (v := (x + 1)) (ls' := [aR J, aR c, aI (x + 1)]) i77_56 rfl rfl rfl rfl <| ok_goto (pc' := 27) i77_59 rfl <| ?_
          exact ih (x + 1) _ _ (by omega) ⟨by omega, fun i h7 h8 => (Decidable.em (i = x)).elim (fun hi => by rw [hi]; omega) (fun hi => hE i h7 (by omega)), rfl, rfl⟩
        · refine ok_iconst (pc' := 55) i77_54 rfl <| ok_iretz i77_55 rt77 (by decide) <| ?_
          exact ⟨by rw [show wdB by_ tx m st en ty = 0 from if_neg (by rintro ⟨h7, h8, h9⟩; have h10 := eqW_f m h9 x (by omega) (by omega); omega)], rfl, rfl⟩
    · refine ok_iconst (pc' := 24) i77_23 rfl <| ok_iretz i77_24 rt77 (by decide) <| ?_
      exact ⟨by rw [show wdB by_ tx m st en ty = 0 from if_neg (by rintro ⟨h7, h8, h9⟩; omega)], rfl, rfl⟩
theorem t79 {g : AG} {M : AM} {J Z P B : Nat} {by_ : Int → Int} {n a : Int} {x1 x2 : Int} (hSJ : ShParser g J Z P B) (hSZ : ShBytes g Z) (hJZ : J ≠ Z) (hZ : InZ M Z by_) (j3 : M J 3 = n) (hn : 0 ≤ n ∧ n ≤ 700) (ha : 0 ≤ a ∧ a ≤ n) (j4 : M J 4 = a) (hx1 : 0 ≤ x1 ∧ x1 ≤ 1000) (hx2 : -1 ≤ x2 ∧ x2 ≤ 1000) :
    Ok 3 79 0 [aR J, aI x1, aI x2] [] g M (Rt (some (aI (nuB by_ n x1 x2 a))) g (fun M9 => M9 J 4 = enS by_ n a ∧ M9 J 5 = stS by_ n a ∧ M9 J 6 = tyS by_ n a ∧ (nuC by_ n x1 x2 a = 0 → M9 J 7 = vaS by_ n a) ∧ (nuC by_ n x1 x2 a ≠ 0 → M9 J 8 = nuC by_ n x1 x2 a) ∧ (∀ y : Int, y ≠ 4 → y ≠ 5 → y ≠ 6 → y ≠ 7 → y ≠ 8 → M9 J y = M J y) ∧ ∀ c, c ≠ J → M9 c = M c)) := by
  refine ok_aloadn (pc' := 1) i79_0 rfl rfl <| ?_
  refine ok_cn0 (pc' := 4) (d0 := 2) i79_1 rfl (cl_v o79 m3_37 na71 rfl rfl (bt rfl) (bt rfl) rfl (by rw [ShParser_k0 hSJ, o71])) ln71 (pd71 (aR J)) (by omega) (t71 hSJ hSZ hJZ hZ j3 hn (by omega) j4) rfl (fun M1 p2 => ?_)
  have rM1 := en_rg (by_ := by_) (n := n) (a := a) (by omega)
  obtain ⟨st1, hst1⟩ : ∃ u9 : Int, u9 = stS by_ n a := ⟨_, rfl⟩
  rw [← hst1] at rM1 p2
  obtain ⟨en1, hen1⟩ : ∃ u9 : Int, u9 = enS by_ n a := ⟨_, rfl⟩
  rw [← hen1] at rM1 p2
  obtain ⟨ty1, hty1⟩ : ∃ u9 : Int, u9 = tyS by_ n a := ⟨_, rfl⟩
  rw [← hty1] at rM1 p2
  obtain ⟨va1, hva1⟩ : ∃ u9 : Int, u9 = vaS by_ n a := ⟨_, rfl⟩
  rw [← hva1] at p2
  have hZM1 : InZ M1 Z by_ := fun i h0 h1 => by rw [p2.2.2.2.2.2 Z (Ne.symm hJZ)]; exact hZ i h0 h1
  refine ok_aloadn (pc' := 5) i79_4 rfl rfl <| ok_getfi (v := ty1) (pc' := 8) i79_5 o79 gi3_40 (ShParser_k0 hSJ) p2.2.2.1 rfl <| ok_iconst (pc' := 9) i79_8 rfl <| ?_
  refine ok_ceq (pc1 := 18) (pc2 := 12) i79_9 (by omega) rfl rfl (fun h3 => ?_) (fun h3 => ?_)
  · refine ok_aloadn (pc' := 19) i79_18 rfl rfl <| ?_
    have z1 : 0 ≤ va1 ∧ va1 ≤ 999 := by rw [hva1]; exact va_rg (by omega) (by omega)
    refine ok_getfi (v := va1) (pc' := 22) i79_19 o79 gi3_94 (ShParser_k0 hSJ) (p2.2.2.2.1 (by omega)) rfl <| ok_iloadn (pc' := 23) i79_22 rfl rfl <| ?_
    refine ok_clt (pc1 := 34) (pc2 := 26) i79_23 (by omega) rfl rfl (fun h4 => ?_) (fun h4 => ?_)
    · refine ok_aloadn (pc' := 35) i79_34 rfl rfl <| ok_iconst (pc' := 36) i79_35 rfl <| ok_cc i79_36 rfl (cl_v o79 m3_44 na78 rfl rfl (bt rfl) (bt rfl) rfl (by rw [ShParser_k0 hSJ, o78])) ln78 (pd78 (aR J) (aI 2)) <| ok_aloadn (pc' := 1) i78_0 rfl rfl <| ok_iloadn (pc' := 2) i78_1 rfl rfl <| ok_putfj (kk := 8) (pc' := 5) i78_2 o78 pi78_147 (ShParser_k0 hSJ) rfl rfl <| ok_iconst (pc' := 6) i78_5 rfl <| ok_iretz i78_6 rt78 (by decide) <| ?_
      refine kt_v (pc' := 39) rfl <| ok_kz1 (pc1 := 46) (pc2 := 42) i79_39 (by decide) rfl rfl <| ok_iconst (pc' := 47) i79_46 rfl <| ok_iretz i79_47 rt79 (by decide) <| ?_
      have e : nuC by_ n x1 x2 a = 2 := by unfold nuC; rw [← hty1, ← hva1]; rw [if_neg (by omega), if_neg (by omega)]
      have e2 : nuB by_ n x1 x2 a = 0 := by unfold nuB; rw [e]; rfl
      exact ⟨by rw [e2], rfl, (rd_ni (by decide) (p2.1)).trans hen1, (rd_ni (by decide) (p2.2.1)).trans hst1, (rd_ni (by decide) (p2.2.2.1)).trans hty1, fun h7 => by omega, fun _ => by rw [e]; exact rd_eq, fun y c4 c5 c6 c7 c8 => by rw [up2_rd, if_neg (by omega)]; exact p2.2.2.2.2.1 y c4 c5 c6 c7, fun c hc => by rw [up2_na hc]; exact p2.2.2.2.2.2 c hc⟩
    · refine ok_aloadn (pc' := 27) i79_26 rfl rfl <| ok_getfi (v := va1) (pc' := 30) i79_27 o79 gi3_94 (ShParser_k0 hSJ) (p2.2.2.2.1 (by omega)) rfl <| ok_iloadn (pc' := 31) i79_30 rfl rfl <| ?_
      refine ok_cle (pc1 := 42) (pc2 := 34) i79_31 (by omega) rfl rfl (fun h5 => ?_) (fun h5 => ?_)
      · refine ok_iconst (pc' := 43) i79_42 rfl <| ok_goto (pc' := 47) i79_43 rfl <| ok_iretz i79_47 rt79 (by decide) <| ?_
        have e : nuC by_ n x1 x2 a = 0 := by unfold nuC; rw [← hty1, ← hva1]; rw [if_neg (by omega), if_pos (by omega)]
        have e2 : nuB by_ n x1 x2 a = 1 := by unfold nuB; rw [e]; rfl
        exact ⟨by rw [e2], rfl, (p2.1).trans hen1, (p2.2.1).trans hst1, (p2.2.2.1).trans hty1, fun _ => (p2.2.2.2.1 (by omega)).trans hva1, fun h7 => by omega, fun y c4 c5 c6 c7 c8 => p2.2.2.2.2.1 y c4 c5 c6 c7, fun c hc => p2.2.2.2.2.2 c hc⟩
      · refine ok_aloadn (pc' := 35) i79_34 rfl rfl <| ok_iconst (pc' := 36) i79_35 rfl <| ok_cc i79_36 rfl (cl_v o79 m3_44 na78 rfl rfl (bt rfl) (bt rfl) rfl (by rw [ShParser_k0 hSJ, o78])) ln78 (pd78 (aR J) (aI 2)) <| ok_aloadn (pc' := 1) i78_0 rfl rfl <| ok_iloadn (pc' := 2) i78_1 rfl rfl <| ok_putfj (kk := 8) (pc' := 5) i78_2 o78 pi78_147 (ShParser_k0 hSJ) rfl rfl <| ok_iconst (pc' := 6) i78_5 rfl <| ok_iretz i78_6 rt78 (by decide) <| ?_
        refine kt_v (pc' := 39) rfl <| ok_kz1 (pc1 := 46) (pc2 := 42) i79_39 (by decide) rfl rfl <| ok_iconst (pc' := 47) i79_46 rfl <| ok_iretz i79_47 rt79 (by decide) <| ?_
        have e : nuC by_ n x1 x2 a = 2 := by unfold nuC; rw [← hty1, ← hva1]; rw [if_neg (by omega), if_neg (by omega)]
        have e2 : nuB by_ n x1 x2 a = 0 := by unfold nuB; rw [e]; rfl
        exact ⟨by rw [e2], rfl, (rd_ni (by decide) (p2.1)).trans hen1, (rd_ni (by decide) (p2.2.1)).trans hst1, (rd_ni (by decide) (p2.2.2.1)).trans hty1, fun h7 => by omega, fun _ => by rw [e]; exact rd_eq, fun y c4 c5 c6 c7 c8 => by rw [up2_rd, if_neg (by omega)]; exact p2.2.2.2.2.1 y c4 c5 c6 c7, fun c hc => by rw [up2_na hc]; exact p2.2.2.2.2.2 c hc⟩
  · refine ok_aloadn (pc' := 13) i79_12 rfl rfl <| ok_iconst (pc' := 14) i79_13 rfl <| ok_cc i79_14 rfl (cl_v o79 m3_44 na78 rfl rfl (bt rfl) (bt rfl) rfl (by rw [ShParser_k0 hSJ, o78])) ln78 (pd78 (aR J) (aI 1)) <| ok_aloadn (pc' := 1) i78_0 rfl rfl <| ok_iloadn (pc' := 2) i78_1 rfl rfl <| ok_putfj (kk := 8) (pc' := 5) i78_2 o78 pi78_147 (ShParser_k0 hSJ) rfl rfl <| ok_iconst (pc' := 6) i78_5 rfl <| ok_iretz i78_6 rt78 (by decide) <| ?_
    refine kt_v (pc' := 17) rfl <| ok_iretz i79_17 rt79 (by decide) <| ?_
    have e : nuC by_ n x1 x2 a = 1 := by unfold nuC; rw [← hty1, ← hva1]; rw [if_pos (by omega)]
    have e2 : nuB by_ n x1 x2 a = 0 := by unfold nuB; rw [e]; rfl
    exact ⟨by rw [e2], rfl, (rd_ni (by decide) (p2.1)).trans hen1, (rd_ni (by decide) (p2.2.1)).trans hst1, (rd_ni (by decide) (p2.2.2.1)).trans hty1, fun h7 => by omega, fun _ => by rw [e]; exact rd_eq, fun y c4 c5 c6 c7 c8 => by rw [up2_rd, if_neg (by omega)]; exact p2.2.2.2.2.1 y c4 c5 c6 c7, fun c hc => by rw [up2_na hc]; exact p2.2.2.2.2.2 c hc⟩
theorem t70 {g : AG} {M : AM} {J Z P B : Nat} {by_ : Int → Int} {n a : Int} {c m : Nat} {tx : Int → Int} (hSJ : ShParser g J Z P B) (hSZ : ShBytes g Z) (hJZ : J ≠ Z) (hZ : InZ M Z by_) (j3 : M J 3 = n) (hn : 0 ≤ n ∧ n ≤ 700) (ha : 0 ≤ a ∧ a ≤ n) (j4 : M J 4 = a) (hW : Wd g M c m tx) (hcJ : c + 1 ≠ J) :
    Ok 5 70 0 [aR J, aR c] [] g M (Rt (some (aI (wdB by_ tx m (stS by_ n a) (enS by_ n a) (tyS by_ n a)))) g (fun M9 => M9 J 4 = enS by_ n a ∧ M9 J 5 = stS by_ n a ∧ M9 J 6 = tyS by_ n a ∧ (wdB by_ tx m (stS by_ n a) (enS by_ n a) (tyS by_ n a) = 0 → M9 J 8 = 1) ∧ (∀ y : Int, y ≠ 4 → y ≠ 5 → y ≠ 6 → y ≠ 7 → y ≠ 8 → M9 J y = M J y) ∧ ∀ c, c ≠ J → M9 c = M c)) := by
  refine ok_aloadn (pc' := 1) i70_0 rfl rfl <| ?_
  refine ok_cn0 (pc' := 4) (d0 := 2) i70_1 rfl (cl_v o70 m3_37 na71 rfl rfl (bt rfl) (bt rfl) rfl (by rw [ShParser_k0 hSJ, o71])) ln71 (pd71 (aR J)) (by omega) (t71 hSJ hSZ hJZ hZ j3 hn (by omega) j4) rfl (fun M1 p2 => ?_)
  have rM1 := en_rg (by_ := by_) (n := n) (a := a) (by omega)
  obtain ⟨st1, hst1⟩ : ∃ u9 : Int, u9 = stS by_ n a := ⟨_, rfl⟩
  rw [← hst1] at rM1 p2
  obtain ⟨en1, hen1⟩ : ∃ u9 : Int, u9 = enS by_ n a := ⟨_, rfl⟩
  rw [← hen1] at rM1 p2
  obtain ⟨ty1, hty1⟩ : ∃ u9 : Int, u9 = tyS by_ n a := ⟨_, rfl⟩
  rw [← hty1] at rM1 p2
  obtain ⟨va1, hva1⟩ : ∃ u9 : Int, u9 = vaS by_ n a := ⟨_, rfl⟩
  rw [← hva1] at p2
  have hZM1 : InZ M1 Z by_ := fun i h0 h1 => by rw [p2.2.2.2.2.2 Z (Ne.symm hJZ)]; exact hZ i h0 h1
  have hWM1 : Wd g M1 c m tx := hW.fr (p2.2.2.2.2.2 (c + 1) (by omega))
  refine ok_aloadn (pc' := 5) i70_4 rfl rfl <| ok_aloadn (pc' := 6) i70_5 rfl rfl <| ok_cp (pc' := 9) (d0 := 4) i70_6 rfl (cl_v o70 m3_101 na77 rfl rfl (bt rfl) (bt rfl) rfl (by rw [ShParser_k0 hSJ, o77])) ln77 (pd77 (aR J) (aR c)) (by omega) (t77 hSJ hSZ hZM1 hWM1 p2.1 p2.2.1 p2.2.2.1 (by omega) (by omega) (by omega)) rfl <| ?_
  have z1 : 0 ≤ (wdB by_ tx m st1 en1 ty1) ∧ (wdB by_ tx m st1 en1 ty1) ≤ 1 := wdB_rg
  refine ok_zne (pc1 := 20) (pc2 := 12) i70_9 (by omega) rfl rfl (fun h3 => ?_) (fun h3 => ?_)
  · refine ok_iconst (pc' := 21) i70_20 rfl <| ok_goto (pc' := 25) i70_21 rfl <| ok_iretz i70_25 rt70 (by decide) <| ?_
    have e : wdB by_ tx m (stS by_ n a) (enS by_ n a) (tyS by_ n a) = 1 := by rw [← hst1, ← hen1, ← hty1]; omega
    exact ⟨by rw [e], rfl, (p2.1).trans hen1, (p2.2.1).trans hst1, (p2.2.2.1).trans hty1, fun h7 => by omega, fun y c4 c5 c6 c7 c8 => p2.2.2.2.2.1 y c4 c5 c6 c7, fun c hc => p2.2.2.2.2.2 c hc⟩
  · refine ok_aloadn (pc' := 13) i70_12 rfl rfl <| ok_iconst (pc' := 14) i70_13 rfl <| ok_cc i70_14 rfl (cl_v o70 m3_44 na78 rfl rfl (bt rfl) (bt rfl) rfl (by rw [ShParser_k0 hSJ, o78])) ln78 (pd78 (aR J) (aI 1)) <| ok_aloadn (pc' := 1) i78_0 rfl rfl <| ok_iloadn (pc' := 2) i78_1 rfl rfl <| ok_putfj (kk := 8) (pc' := 5) i78_2 o78 pi78_147 (ShParser_k0 hSJ) rfl rfl <| ok_iconst (pc' := 6) i78_5 rfl <| ok_iretz i78_6 rt78 (by decide) <| ?_
    refine kt_v (pc' := 17) rfl <| ok_kz1 (pc1 := 24) (pc2 := 20) i70_17 (by decide) rfl rfl <| ok_iconst (pc' := 25) i70_24 rfl <| ok_iretz i70_25 rt70 (by decide) <| ?_
    have e : wdB by_ tx m (stS by_ n a) (enS by_ n a) (tyS by_ n a) = 0 := by rw [← hst1, ← hen1, ← hty1]; omega
    exact ⟨by rw [e], rfl, (rd_ni (by decide) (p2.1)).trans hen1, (rd_ni (by decide) (p2.2.1)).trans hst1, (rd_ni (by decide) (p2.2.2.1)).trans hty1, fun _ => rd_eq, fun y c4 c5 c6 c7 c8 => by rw [up2_rd, if_neg (by omega)]; exact p2.2.2.2.2.1 y c4 c5 c6 c7, fun c hc => by rw [up2_na hc]; exact p2.2.2.2.2.2 c hc⟩
theorem t85 {g : AG} {M : AM} {J Z P B : Nat} {by_ : Int → Int} {n a : Int} (hSJ : ShParser g J Z P B) (hSZ : ShBytes g Z) (hJZ : J ≠ Z) (hZ : InZ M Z by_) (j3 : M J 3 = n) (hn : 0 ≤ n ∧ n ≤ 700) (ha : 0 ≤ a ∧ a ≤ n) (j4 : M J 4 = a) :
    Ok 1 85 0 [aR J] [] g M (Rt (some (aI (dgB by_ n a))) g (fun M9 => M9 = up2 M J 4 (stS by_ n a))) := by
  refine ok_aloadn (pc' := 1) i85_0 rfl rfl <| ?_
  refine ok_cn0 (pc' := 4) (d0 := 0) i85_1 rfl (cl_v o85 m3_160 na72 rfl rfl (bt rfl) (bt rfl) rfl (by rw [ShParser_k0 hSJ, o72])) ln72 (pd72 (aR J)) (by omega) (t72 hSJ hSZ hJZ hZ j3 hn (by omega) j4) rfl (fun M1 p2 => ?_)
  have hstr := run_ge (p := pB) (by_ := by_) (n := n) (a := a) (by omega)
  obtain ⟨st, hst⟩ : ∃ u9 : Int, u9 = run pB by_ n a := ⟨_, rfl⟩
  rw [← hst] at p2 hstr
  have hZM1 : InZ M1 Z by_ := fun i h0 h1 => by rw [p2, up2_na (Ne.symm hJZ)]; exact hZ i h0 h1
  refine ok_aloadn (pc' := 5) i85_4 rfl rfl <| ok_getfi (v := st) (pc' := 8) i85_5 o85 gi3_60 (ShParser_k0 hSJ) (by rw [p2]; exact rd_eq) rfl <| ok_aloadn (pc' := 9) i85_8 rfl rfl <| ok_getfi (v := n) (pc' := 12) i85_9 o85 gi3_57 (ShParser_k0 hSJ) (by rw [p2]; exact rd_ni (by decide) j3) rfl <| ?_
  refine ok_cge (pc1 := 34) (pc2 := 15) i85_12 (by omega) rfl rfl (fun h3 => ?_) (fun h3 => ?_)
  · refine ok_iconst (pc' := 35) i85_34 rfl <| ok_iretz i85_35 rt85 (by decide) <| ?_
    have e1 : stS by_ n a = st := hst.symm
    exact ⟨by rw [show dgB by_ n a = 0 from if_neg (by rintro ⟨h7, h8⟩; rw [e1] at h7; omega)], rfl, by rw [e1]; exact p2⟩
  · refine ok_aloadn (pc' := 16) i85_15 rfl rfl <| ok_getfr (r := Z) (pc' := 19) i85_16 o85 gr3_25 (ShParser_k0 hSJ) (ShParser_r0 hSJ) rfl <| ok_aloadn (pc' := 20) i85_19 rfl rfl <| ok_getfi (v := st) (pc' := 23) i85_20 o85 gi3_60 (ShParser_k0 hSJ) (by rw [p2]; exact rd_eq) rfl <| ?_
    have z1 : -128 ≤ (by_ st) ∧ (by_ st) < 128 := (hZM1 st (by omega) (by omega)).2
    refine ok_baload (v := (by_ st)) (pc' := 24) i85_23 (ShBytes_k0 hSZ) (by decide) (ShBytes_l0 hSZ) (by omega) (hZM1 st (by omega) (by omega)).1 rfl <| ok_cc i85_24 rfl (cl_s o85 m3_170 na75 rfl rfl (bt rfl) (bt rfl) rfl) ln75 (pd75 (aI (by_ st))) <| ok_iloadn (pc' := 1) i75_0 rfl rfl <| ok_bipush (v := 48) (pc' := 3) i75_1 rfl rfl <| ?_
    refine ok_clt (pc1 := 16) (pc2 := 6) i75_3 (by omega) rfl rfl (fun h4 => ?_) (fun h4 => ?_)
    · refine ok_iconst (pc' := 17) i75_16 rfl <| ok_iretz i75_17 rt75 (by decide) <| kt_v (pc' := 27) rfl <| ok_kz1 (pc1 := 34) (pc2 := 30) i85_27 (by decide) rfl rfl <| ok_iconst (pc' := 35) i85_34 rfl <| ok_iretz i85_35 rt85 (by decide) <| ?_
      have e1 : stS by_ n a = st := hst.symm
      exact ⟨by rw [show dgB by_ n a = 0 from if_neg (by rintro ⟨h7, h8⟩; rw [e1, pD_f (by omega)] at h8; cases h8)], rfl, by rw [e1]; exact p2⟩
    · refine ok_iloadn (pc' := 7) i75_6 rfl rfl <| ok_bipush (v := 57) (pc' := 9) i75_7 rfl rfl <| ?_
      refine ok_cgt (pc1 := 16) (pc2 := 12) i75_9 (by omega) rfl rfl (fun h5 => ?_) (fun h5 => ?_)
      · refine ok_iconst (pc' := 17) i75_16 rfl <| ok_iretz i75_17 rt75 (by decide) <| kt_v (pc' := 27) rfl <| ok_kz1 (pc1 := 34) (pc2 := 30) i85_27 (by decide) rfl rfl <| ok_iconst (pc' := 35) i85_34 rfl <| ok_iretz i85_35 rt85 (by decide) <| ?_
        have e1 : stS by_ n a = st := hst.symm
        exact ⟨by rw [show dgB by_ n a = 0 from if_neg (by rintro ⟨h7, h8⟩; rw [e1, pD_f (by omega)] at h8; cases h8)], rfl, by rw [e1]; exact p2⟩
      · refine ok_iconst (pc' := 13) i75_12 rfl <| ok_goto (pc' := 17) i75_13 rfl <| ok_iretz i75_17 rt75 (by decide) <| kt_v (pc' := 27) rfl <| ok_kz0 (pc1 := 34) (pc2 := 30) i85_27 (by decide) rfl rfl <| ok_iconst (pc' := 31) i85_30 rfl <| ok_goto (pc' := 35) i85_31 rfl <| ok_iretz i85_35 rt85 (by decide) <| ?_
        have e1 : stS by_ n a = st := hst.symm
        exact ⟨by rw [show dgB by_ n a = 1 from if_pos ⟨by rw [e1]; omega, by rw [e1]; exact pD_t (by omega)⟩], rfl, by rw [e1]; exact p2⟩

