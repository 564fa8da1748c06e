/-! TOKENS: the class (by program, wip/gen) -/
/-! TOKENS -/
section OK
variable {d mi pc pc' pc1 pc2 oc idx ci k0 a : Nat} {ls ls' st st' : List AV} {g g' : AG} {M M' : AM} {Q : AO → AG → AM → Prop} {i : Instr}
theorem ok_putfj {x kk : Int} (hi : am_ins mi pc = some (.putfield idx)) (ho : am_oc mi = oc) (hf : am_pfi mi oc idx ci k0 = true) (hk : gK g a = ci) (hp : pc + 3 = pc') (hkk : (k0 : Int) = kk) (k : Ok d mi pc' ls st g (up2 M a kk x) Q) : Ok d mi pc ls (aI x :: aR a :: st) g M Q := ok_putfi hi ho hf hk hp (by rw [hkk]; exact k)
theorem ok_putzj {x kk : Int} (hi : am_ins mi pc = some (.putfield idx)) (ho : am_oc mi = oc) (hf : am_pfz mi oc idx ci k0 = true) (hk : gK g a = ci) (hx : x = 0 ∨ x = 1) (hp : pc + 3 = pc') (hkk : (k0 : Int) = kk) (k : Ok d mi pc' ls st g (up2 M a kk x) Q) : Ok d mi pc ls (aI x :: aR a :: st) g M Q := ok_putfz hi ho hf hk hx hp (by rw [hkk]; exact k)
end OK
def runN (p : Int → Bool) (by_ : Int → Int) (n : Int) : Nat → Int → Int
  | 0, a => a
  | k + 1, a => if a < n ∧ p (by_ a) = true then runN p by_ n k (a + 1) else a
def run (p : Int → Bool) (by_ : Int → Int) (n a : Int) : Int := runN p by_ n (n - a).toNat a
def pB (c : Int) : Bool := decide (c = 32)
def pL (c : Int) : Bool := decide (97 ≤ c ∧ c ≤ 122)
def pD (c : Int) : Bool := decide (48 ≤ c ∧ c ≤ 57)
theorem run_go {p : Int → Bool} {by_ : Int → Int} {n a : Int} (h : a < n) (hp : p (by_ a) = true) : run p by_ n a = run p by_ n (a + 1) := by
  unfold run
  rw [show (n - a).toNat = (n - (a + 1)).toNat + 1 by omega, runN, if_pos ⟨h, hp⟩]
theorem run_end {p : Int → Bool} {by_ : Int → Int} {n a : Int} (h : n ≤ a ∨ p (by_ a) = false) : run p by_ n a = a := by
  unfold run
  cases e : (n - a).toNat with
  | zero => rfl
  | succ k =>
    rw [runN, if_neg]
    rintro ⟨h1, h2⟩
    rcases h with h | h
    · omega
    · rw [h] at h2; cases h2
theorem run_rg {p : Int → Bool} {by_ : Int → Int} {n : Int} : ∀ (k : Nat) (a : Int), a ≤ n → a ≤ runN p by_ n k a ∧ runN p by_ n k a ≤ n ∧ ∀ i : Int, a ≤ i → i < runN p by_ n k a → p (by_ i) = true := by
  intro k
  induction k with
  | zero => exact fun a h => ⟨Int.le_refl _, h, fun i h0 h1 => by have h1 : i < a := h1; omega⟩
  | succ k ih =>
    intro a h
    rw [runN]
    split
    · next hc =>
      obtain ⟨h1, h2, h3⟩ := ih (a + 1) (by omega)
      refine ⟨by omega, h2, fun i h4 h5 => ?_⟩
      by_cases hi : i = a
      · rw [hi]; exact hc.2
      · exact h3 i (by omega) h5
    · exact ⟨Int.le_refl _, h, fun i h0 h1 => by omega⟩
theorem run_ge {p : Int → Bool} {by_ : Int → Int} {n a : Int} (h : a ≤ n) : a ≤ run p by_ n a ∧ run p by_ n a ≤ n := ⟨(run_rg _ _ h).1, (run_rg _ _ h).2.1⟩
theorem run_all {p : Int → Bool} {by_ : Int → Int} {n a : Int} (h : a ≤ n) {i : Int} (h0 : a ≤ i) (h1 : i < run p by_ n a) : p (by_ i) = true := (run_rg _ _ h).2.2 i h0 h1
theorem pB_t {c : Int} (h : c = 32) : pB c = true := decide_eq_true h
theorem pB_f {c : Int} (h : c ≠ 32) : pB c = false := decide_eq_false h
theorem pL_t {c : Int} (h : 97 ≤ c ∧ c ≤ 122) : pL c = true := decide_eq_true h
theorem pL_f {c : Int} (h : c < 97 ∨ 122 < c) : pL c = false := decide_eq_false (by omega)
theorem pD_t {c : Int} (h : 48 ≤ c ∧ c ≤ 57) : pD c = true := decide_eq_true h
theorem pD_f {c : Int} (h : c < 48 ∨ 57 < c) : pD c = false := decide_eq_false (by omega)
def stS (by_ : Int → Int) (n a : Int) : Int := run pB by_ n a
def numV (by_ : Int → Int) (s e : Int) : Int := itv (fun i v => 10 * v + by_ i - 48) 0 s (e - s).toNat
def tyS (by_ : Int → Int) (n a : Int) : Int := if n ≤ stS by_ n a then 3 else if pL (by_ (stS by_ n a)) = true then (if run pL by_ n (stS by_ n a) - stS by_ n a ≤ 8 then 0 else 4) else if pD (by_ (stS by_ n a)) = true then (if run pD by_ n (stS by_ n a) - stS by_ n a ≤ 3 then 1 else 4) else if by_ (stS by_ n a) = 59 then 2 else 4
def enS (by_ : Int → Int) (n a : Int) : Int := if n ≤ stS by_ n a then stS by_ n a else if pL (by_ (stS by_ n a)) = true then run pL by_ n (stS by_ n a) else if pD (by_ (stS by_ n a)) = true then run pD by_ n (stS by_ n a) else stS by_ n a + 1
def vaS (by_ : Int → Int) (n a : Int) : Int := numV by_ (stS by_ n a) (run pD by_ n (stS by_ n a))
def InZ (M : AM) (Z : Nat) (by_ : Int → Int) : Prop := ∀ i : Int, 0 ≤ i → i < 700 → M Z i = by_ i ∧ -128 ≤ by_ i ∧ by_ i < 128
theorem numV_step {by_ : Int → Int} {s e : Int} (h : s ≤ e) : numV by_ s (e + 1) = 10 * numV by_ s e + by_ e - 48 := by
  unfold numV
  rw [show (e + 1 - s).toNat = (e - s).toNat + 1 by omega, itv, show s + ((e - s).toNat : Int) = e by omega]
theorem up2_up2 {M : AM} {a : Nat} {k v w : Int} : up2 (up2 M a k v) a k w = up2 M a k w := by
  funext c y
  simp only [up2_rd]
  grind
theorem up2_self {M : AM} {a : Nat} {k v : Int} (h : M a k = v) : up2 M a k v = M := by
  funext c y
  rw [up2_rd]
  split
  · next hc => rw [hc.1, hc.2, h]
  · rfl
theorem en_rg {by_ : Int → Int} {n a : Int} (h : 0 ≤ a ∧ a ≤ n) : a ≤ stS by_ n a ∧ stS by_ n a ≤ n ∧ stS by_ n a ≤ enS by_ n a ∧ enS by_ n a ≤ n ∧ (tyS by_ n a ≠ 3 → stS by_ n a < n ∧ stS by_ n a < enS by_ n a) ∧ (0 ≤ tyS by_ n a ∧ tyS by_ n a ≤ 4) := by
  have h1 : a ≤ stS by_ n a ∧ stS by_ n a ≤ n := run_ge (p := pB) (by_ := by_) h.2
  have h2 := run_ge (p := pL) (by_ := by_) h1.2
  have h3 := run_ge (p := pD) (by_ := by_) h1.2
  unfold enS tyS
  generalize stS by_ n a = st at *
  by_cases hn : n ≤ st
  · simp only [hn, if_true]
    omega
  · simp only [hn, if_false]
    by_cases hL : pL (by_ st) = true
    · have g := run_go (p := pL) (by_ := by_) (n := n) (a := st) (by omega) hL
      have g2 := run_ge (p := pL) (by_ := by_) (n := n) (a := st + 1) (by omega)
      simp only [hL, if_true]
      split <;> omega
    · by_cases hD : pD (by_ st) = true
      · have g := run_go (p := pD) (by_ := by_) (n := n) (a := st) (by omega) hD
        have g2 := run_ge (p := pD) (by_ := by_) (n := n) (a := st + 1) (by omega)
        simp only [hL, hD, if_true, if_false, Bool.false_eq_true]
        split <;> omega
      · simp only [hL, hD, if_false, Bool.false_eq_true]
        split <;> omega
theorem va_rg {by_ : Int → Int} {n a : Int} (h : 0 ≤ a ∧ a ≤ n) (ht : tyS by_ n a = 1) : 0 ≤ vaS by_ n a ∧ vaS by_ n a ≤ 999 := by
  have h1 : a ≤ stS by_ n a ∧ stS by_ n a ≤ n := run_ge (p := pB) (by_ := by_) h.2
  have h3 := run_ge (p := pD) (by_ := by_) h1.2
  have hall : ∀ i : Int, stS by_ n a ≤ i → i < run pD by_ n (stS by_ n a) → 48 ≤ by_ i ∧ by_ i ≤ 57 := fun i h0 h9 => of_decide_eq_true (run_all (p := pD) h1.2 h0 h9)
  have hd : run pD by_ n (stS by_ n a) - stS by_ n a ≤ 3 := by
    unfold tyS at ht
    split at ht
    · omega
    · split at ht
      · split at ht <;> omega
      · split at ht
        · split at ht
          · assumption
          · omega
        · split at ht <;> omega
  unfold vaS
  generalize run pD by_ n (stS by_ n a) = e9 at *
  generalize stS by_ n a = st at *
  have hz : numV by_ st st = 0 := by unfold numV; rw [show (st - st).toNat = 0 by omega]; rfl
  rcases (show e9 = st ∨ e9 = st + 1 ∨ e9 = st + 1 + 1 ∨ e9 = st + 1 + 1 + 1 by omega) with rfl | rfl | rfl | rfl
  · rw [hz]; omega
  · rw [numV_step (by omega), hz]
    have := hall st (by omega) (by omega)
    omega
  · rw [numV_step (by omega), numV_step (by omega), hz]
    have := hall st (by omega) (by omega)
    have := hall (st + 1) (by omega) (by omega)
    omega
  · rw [numV_step (by omega), numV_step (by omega), numV_step (by omega), hz]
    have := hall st (by omega) (by omega)
    have := hall (st + 1) (by omega) (by omega)
    have := hall (st + 1 + 1) (by omega) (by omega)
    omega
theorem gi3_60 : am_gfi 3 60 3 4 = true := by decide +kernel
theorem o72 : am_oc 72 = 3 := by decide +kernel
theorem gi3_57 : am_gfi 3 57 3 3 = true := by decide +kernel
theorem rt72 : am_rt 72 = none := by decide +kernel
theorem gr3_25 : am_gfr 3 25 3 0 = true := by decide +kernel
theorem pi72_60 : am_pfi 72 3 60 3 4 = true := by decide +kernel
theorem o74 : am_oc 74 = 3 := by decide +kernel
theorem gi3_75 : am_gfi 3 75 3 5 = true := by decide +kernel
theorem pi74_40 : am_pfi 74 3 40 3 6 = true := by decide +kernel
theorem rt74 : am_rt 74 = none := by decide +kernel
theorem m3_163 : am_mlk 3 163 1 73 = true := by decide +kernel
theorem na73 : am_na 73 = 1 := by decide +kernel
theorem nl73 : am_nL 73 = 1 := by decide +kernel
theorem pd73 : ∀ a0 : AV, am_pad 73 [a0] = [a0] := by intros; unfold am_pad; rw [nl73]; rfl
theorem ln73 : 1 ≤ am_nL 73 := by rw [nl73]; decide
theorem o73 : am_oc 73 = 3 := by decide +kernel
theorem rt73 : am_rt 73 = some .boolean := by decide +kernel
theorem pi74_60 : am_pfi 74 3 60 3 4 = true := by decide +kernel
theorem o76 : am_oc 76 = 3 := by decide +kernel
theorem pi76_40 : am_pfi 76 3 40 3 6 = true := by decide +kernel
theorem rt76 : am_rt 76 = none := by decide +kernel
theorem m3_170 : am_mlk 3 170 1 75 = true := by decide +kernel
theorem na75 : am_na 75 = 1 := by decide +kernel
theorem nl75 : am_nL 75 = 1 := by decide +kernel
theorem pd75 : ∀ a0 : AV, am_pad 75 [a0] = [a0] := by intros; unfold am_pad; rw [nl75]; rfl
theorem ln75 : 1 ≤ am_nL 75 := by rw [nl75]; decide
theorem o75 : am_oc 75 = 3 := by decide +kernel
theorem rt75 : am_rt 75 = some .boolean := by decide +kernel
theorem gi3_94 : am_gfi 3 94 3 7 = true := by decide +kernel
theorem pi76_94 : am_pfi 76 3 94 3 7 = true := by decide +kernel
theorem pi76_60 : am_pfi 76 3 60 3 4 = true := by decide +kernel
theorem o71 : am_oc 71 = 3 := by decide +kernel
theorem m3_160 : am_mlk 3 160 0 72 = true := by decide +kernel
theorem na72 : am_na 72 = 0 := by decide +kernel
theorem nl72 : am_nL 72 = 1 := by decide +kernel
theorem pd72 : ∀ a0 : AV, am_pad 72 [a0] = [a0] := by intros; unfold am_pad; rw [nl72]; rfl
theorem ln72 : 1 ≤ am_nL 72 := by rw [nl72]; decide
theorem pi71_75 : am_pfi 71 3 75 3 5 = true := by decide +kernel
theorem pi71_40 : am_pfi 71 3 40 3 6 = true := by decide +kernel
theorem pi71_60 : am_pfi 71 3 60 3 4 = true := by decide +kernel
theorem rt71 : am_rt 71 = none := by decide +kernel
theorem m3_173 : am_mlk 3 173 0 76 = true := by decide +kernel
theorem na76 : am_na 76 = 0 := by decide +kernel
theorem nl76 : am_nL 76 = 1 := by decide +kernel
theorem pd76 : ∀ a0 : AV, am_pad 76 [a0] = [a0] := by intros; unfold am_pad; rw [nl76]; rfl
theorem ln76 : 1 ≤ am_nL 76 := by rw [nl76]; decide
theorem m3_167 : am_mlk 3 167 0 74 = true := by decide +kernel
theorem na74 : am_na 74 = 0 := by decide +kernel
theorem nl74 : am_nL 74 = 1 := by decide +kernel
theorem pd74 : ∀ a0 : AV, am_pad 74 [a0] = [a0] := by intros; unfold am_pad; rw [nl74]; rfl
theorem ln74 : 1 ≤ am_nL 74 := by rw [nl74]; decide
theorem t72 {g : AG} {M : AM} {J Z P B : Nat} {by_ : Int → Int} {n a : Int} (hSJ : ShParser g J Z P B) (hSZ : ShBytes g Z) (hJZ : J ≠ Z) (hZ : InZ M Z by_) (j3 : M J 3 = n) (hn : 0 ≤ n ∧ n ≤ 700) (ha : 0 ≤ a ∧ a ≤ n) (j4 : M J 4 = a) :
    Ok 0 72 0 [aR J] [] g M (Rt none g (fun M9 => M9 = up2 M J 4 (run pB by_ n a))) := by
  refine ok_while (σ := Int) (fun x ls M9 => (a ≤ x ∧ x ≤ n) ∧ run pB by_ n a = run pB by_ n x ∧ M9 = up2 M J 4 x ∧ ls = [aR J]) (fun x => (n - x).toNat) ?_ a _ M ⟨by omega, rfl, (up2_self j4).symm, rfl⟩
  rintro x ls M9 ⟨hx, hr, hM, rfl⟩ ih
  have h39 : M9 J 3 = n := by rw [hM]; exact rd_ni (by decide) j3
  have h49 : M9 J 4 = x := by rw [hM]; exact rd_eq
  have hZ9 : InZ M9 Z by_ := fun i h0 h1 => by rw [hM, up2_na (Ne.symm hJZ)]; exact hZ i h0 h1
  refine ok_aloadn (pc' := 1) i72_0 rfl rfl <| ok_getfi (v := x) (pc' := 4) i72_1 o72 gi3_60 (ShParser_k0 hSJ) h49 rfl <| ok_aloadn (pc' := 5) i72_4 rfl rfl <| ok_getfi (v := n) (pc' := 8) i72_5 o72 gi3_57 (ShParser_k0 hSJ) h39 rfl <| ?_
  refine ok_cge (pc1 := 38) (pc2 := 11) i72_8 (by omega) rfl rfl (fun h1 => ?_) (fun h1 => ?_)
  · refine ok_vret i72_38 rt72 <| ?_
    exact ⟨rfl, rfl, by rw [hM, hr, run_end (Or.inl (by omega))]⟩
  · refine ok_aloadn (pc' := 12) i72_11 rfl rfl <| ok_getfr (r := Z) (pc' := 15) i72_12 o72 gr3_25 (ShParser_k0 hSJ) (ShParser_r0 hSJ) rfl <| ok_aloadn (pc' := 16) i72_15 rfl rfl <| ok_getfi (v := x) (pc' := 19) i72_16 o72 gi3_60 (ShParser_k0 hSJ) h49 rfl <| ?_
    have z61 : -128 ≤ (by_ x) ∧ (by_ x) < 128 := (hZ9 x (by omega) (by omega)).2
    refine ok_baload (v := (by_ x)) (pc' := 20) i72_19 (ShBytes_k0 hSZ) (by decide) (ShBytes_l0 hSZ) (by omega) (hZ9 x (by omega) (by omega)).1 rfl <| ok_bipush (v := 32) (pc' := 22) i72_20 rfl rfl <| ?_
    refine ok_cne (pc1 := 38) (pc2 := 25) i72_22 (by omega) rfl rfl (fun h2 => ?_) (fun h2 => ?_)
    · refine ok_vret i72_38 rt72 <| ?_
      exact ⟨rfl, rfl, by rw [hM, hr, run_end (Or.inr (pB_f (by omega)))]⟩
    · refine ok_aloadn (pc' := 26) i72_25 rfl rfl <| ok_dup (pc' := 27) i72_26 rfl rfl <| ok_getfi (v := x) (pc' := 30) i72_27 o72 gi3_60 (ShParser_k0 hSJ) h49 rfl <| ok_iconst (pc' := 31) i72_30 rfl <| ok_iadd (v := (x + 1)) (pc' := 32) i72_31 rfl rfl <| ok_putfj (kk := 4) (pc' := 35) i72_32 o72 pi72_60 (ShParser_k0 hSJ) rfl rfl <| ok_goto (pc' := 0) i72_35 rfl <| ?_
      exact ih (x + 1) _ _ (by omega) ⟨by omega, by rw [hr, run_go (by omega) (pB_t (by omega))], by rw [hM]; exact up2_up2, rfl⟩
theorem t74 {g : AG} {M : AM} {J Z P B : Nat} {by_ : Int → Int} {n a : Int} (hSJ : ShParser g J Z P B) (hSZ : ShBytes g Z) (hJZ : J ≠ Z) (hZ : InZ M Z by_) (j3 : M J 3 = n) (hn : 0 ≤ n ∧ n ≤ 700) (ha : 0 ≤ a ∧ a ≤ n) (j4 : M J 4 = a) {st : Int} (j5 : M J 5 = st) (hst : 0 ≤ st ∧ st ≤ a) :
    Ok 1 74 0 [aR J] [] g M (Rt none g (fun M9 => M9 = up2 (up2 M J 4 (run pL by_ n a)) J 6 (if run pL by_ n a - st ≤ 8 then 0 else 4))) := by
  refine ok_while (σ := Int) (fun x ls M9 => (a ≤ x ∧ x ≤ n) ∧ run pL by_ n a = run pL by_ n x ∧ M9 = up2 M J 4 x ∧ ls = [aR J]) (fun x => (n - x).toNat) ?_ a _ M ⟨by omega, rfl, (up2_self j4).symm, rfl⟩
  rintro x ls M9 ⟨hx, hr, hM, rfl⟩ ih
  have h39 : M9 J 3 = n := by rw [hM]; exact rd_ni (by decide) j3
  have h49 : M9 J 4 = x := by rw [hM]; exact rd_eq
  have h59 : M9 J 5 = st := by rw [hM]; exact rd_ni (by decide) j5
  have hZ9 : InZ M9 Z by_ := fun i h0 h1 => by rw [hM, up2_na (Ne.symm hJZ)]; exact hZ i h0 h1
  refine ok_aloadn (pc' := 1) i74_0 rfl rfl <| ok_getfi (v := x) (pc' := 4) i74_1 o74 gi3_60 (ShParser_k0 hSJ) h49 rfl <| ok_aloadn (pc' := 5) i74_4 rfl rfl <| ok_getfi (v := n) (pc' := 8) i74_5 o74 gi3_57 (ShParser_k0 hSJ) h39 rfl <| ?_
  refine ok_cge (pc1 := 39) (pc2 := 11) i74_8 (by omega) rfl rfl (fun h1 => ?_) (fun h1 => ?_)
  · refine ok_aloadn (pc' := 40) i74_39 rfl rfl <| ok_aloadn (pc' := 41) i74_40 rfl rfl <| ok_getfi (v := x) (pc' := 44) i74_41 o74 gi3_60 (ShParser_k0 hSJ) h49 rfl <| ok_aloadn (pc' := 45) i74_44 rfl rfl <| ok_getfi (v := st) (pc' := 48) i74_45 o74 gi3_75 (ShParser_k0 hSJ) h59 rfl <| ok_isub (v := (x - st)) (pc' := 49) i74_48 rfl rfl <| ok_bipush (v := 8) (pc' := 51) i74_49 rfl rfl <| ?_
    refine ok_cgt (pc1 := 58) (pc2 := 54) i74_51 (by omega) rfl rfl (fun h2 => ?_) (fun h2 => ?_)
    · refine ok_iconst (pc' := 59) i74_58 rfl <| ok_putfj (kk := 6) (pc' := 62) i74_59 o74 pi74_40 (ShParser_k0 hSJ) rfl rfl <| ok_vret i74_62 rt74 <| ?_
      exact ⟨rfl, rfl, by rw [hM, hr, run_end (Or.inl (by omega)), if_neg (by omega)]⟩
    · refine ok_iconst (pc' := 55) i74_54 rfl <| ok_goto (pc' := 59) i74_55 rfl <| ok_putfj (kk := 6) (pc' := 62) i74_59 o74 pi74_40 (ShParser_k0 hSJ) rfl rfl <| ok_vret i74_62 rt74 <| ?_
      exact ⟨rfl, rfl, by rw [hM, hr, run_end (Or.inl (by omega)), if_pos (by omega)]⟩
  · refine ok_aloadn (pc' := 12) i74_11 rfl rfl <| ok_getfr (r := Z) (pc' := 15) i74_12 o74 gr3_25 (ShParser_k0 hSJ) (ShParser_r0 hSJ) rfl <| ok_aloadn (pc' := 16) i74_15 rfl rfl <| ok_getfi (v := x) (pc' := 19) i74_16 o74 gi3_60 (ShParser_k0 hSJ) h49 rfl <| ?_
    have z61 : -128 ≤ (by_ x) ∧ (by_ x) < 128 := (hZ9 x (by omega) (by omega)).2
    refine ok_baload (v := (by_ x)) (pc' := 20) i74_19 (ShBytes_k0 hSZ) (by decide) (ShBytes_l0 hSZ) (by omega) (hZ9 x (by omega) (by omega)).1 rfl <| ok_cc i74_20 rfl (cl_s o74 m3_163 na73 rfl rfl (bt rfl) (bt rfl) rfl) ln73 (pd73 (aI (by_ x))) <| ok_iloadn (pc' := 1) i73_0 rfl rfl <| ok_bipush (v := 97) (pc' := 3) i73_1 rfl rfl <| ?_
    refine ok_clt (pc1 := 16) (pc2 := 6) i73_3 (by omega) rfl rfl (fun h3 => ?_) (fun h3 => ?_)
    · refine ok_iconst (pc' := 17) i73_16 rfl <| ok_iretz i73_17 rt73 (by decide) <| kt_v (pc' := 23) rfl <| ok_kz1 (pc1 := 39) (pc2 := 26) i74_23 (by decide) rfl rfl <| ok_aloadn (pc' := 40) i74_39 rfl rfl <| ok_aloadn (pc' := 41) i74_40 rfl rfl <| ok_getfi (v := x) (pc' := 44) i74_41 o74 gi3_60 (ShParser_k0 hSJ) h49 rfl <| ok_aloadn (pc' := 45) i74_44 rfl rfl <| ?_
      refine ok_getfi (v := st) (pc' := 48) i74_45 o74 gi3_75 (ShParser_k0 hSJ) h59 rfl <| ok_isub (v := (x - st)) (pc' := 49) i74_48 rfl rfl <| ok_bipush (v := 8) (pc' := 51) i74_49 rfl rfl <| ?_
      refine ok_cgt (pc1 := 58) (pc2 := 54) i74_51 (by omega) rfl rfl (fun h4 => ?_) (fun h4 => ?_)
      · refine ok_iconst (pc' := 59) i74_58 rfl <| ok_putfj (kk := 6) (pc' := 62) i74_59 o74 pi74_40 (ShParser_k0 hSJ) rfl rfl <| ok_vret i74_62 rt74 <| ?_
        exact ⟨rfl, rfl, by rw [hM, hr, run_end (Or.inr (pL_f (by omega))), if_neg (by omega)]⟩
      · refine ok_iconst (pc' := 55) i74_54 rfl <| ok_goto (pc' := 59) i74_55 rfl <| ok_putfj (kk := 6) (pc' := 62) i74_59 o74 pi74_40 (ShParser_k0 hSJ) rfl rfl <| ok_vret i74_62 rt74 <| ?_
        exact ⟨rfl, rfl, by rw [hM, hr, run_end (Or.inr (pL_f (by omega))), if_pos (by omega)]⟩
    · refine ok_iloadn (pc' := 7) i73_6 rfl rfl <| ok_bipush (v := 122) (pc' := 9) i73_7 rfl rfl <| ?_
      refine ok_cgt (pc1 := 16) (pc2 := 12) i73_9 (by omega) rfl rfl (fun h5 => ?_) (fun h5 => ?_)
      · refine ok_iconst (pc' := 17) i73_16 rfl <| ok_iretz i73_17 rt73 (by decide) <| kt_v (pc' := 23) rfl <| ok_kz1 (pc1 := 39) (pc2 := 26) i74_23 (by decide) rfl rfl <| ok_aloadn (pc' := 40) i74_39 rfl rfl <| ok_aloadn (pc' := 41) i74_40 rfl rfl <| ok_getfi (v := x) (pc' := 44) i74_41 o74 gi3_60 (ShParser_k0 hSJ) h49 rfl <| ok_aloadn (pc' := 45) i74_44 rfl rfl <| ?_
        refine ok_getfi (v := st) (pc' := 48) i74_45 o74 gi3_75 (ShParser_k0 hSJ) h59 rfl <| ok_isub (v := (x - st)) (pc' := 49) i74_48 rfl rfl <| ok_bipush (v := 8) (pc' := 51) i74_49 rfl rfl <| ?_
        refine ok_cgt (pc1 := 58) (pc2 := 54) i74_51 (by omega) rfl rfl (fun h6 => ?_) (fun h6 => ?_)
        · refine ok_iconst (pc' := 59) i74_58 rfl <| ok_putfj (kk := 6) (pc' := 62) i74_59 o74 pi74_40 (ShParser_k0 hSJ) rfl rfl <| ok_vret i74_62 rt74 <| ?_
          exact ⟨rfl, rfl, by rw [hM, hr, run_end (Or.inr (pL_f (by omega))), if_neg (by omega)]⟩
        · refine ok_iconst (pc' := 55) i74_54 rfl <| ok_goto (pc' := 59) i74_55 rfl <| ok_putfj (kk := 6) (pc' := 62) i74_59 o74 pi74_40 (ShParser_k0 hSJ) rfl rfl <| ok_vret i74_62 rt74 <| ?_
          exact ⟨rfl, rfl, by rw [hM, hr, run_end (Or.inr (pL_f (by omega))), if_pos (by omega)]⟩
      · refine ok_iconst (pc' := 13) i73_12 rfl <| ok_goto (pc' := 17) i73_13 rfl <| ok_iretz i73_17 rt73 (by decide) <| kt_v (pc' := 23) rfl <| ok_kz0 (pc1 := 39) (pc2 := 26) i74_23 (by decide) rfl rfl <| ok_aloadn (pc' := 27) i74_26 rfl rfl <| ok_dup (pc' := 28) i74_27 rfl rfl <| ok_getfi (v := x) (pc' := 31) i74_28 o74 gi3_60 (ShParser_k0 hSJ) h49 rfl <| ?_
        refine ok_iconst (pc' := 32) i74_31 rfl <| ok_iadd (v := (x + 1)) (pc' := 33) i74_32 rfl rfl <| ok_putfj (kk := 4) (pc' := 36) i74_33 o74 pi74_60 (ShParser_k0 hSJ) rfl rfl <| ok_goto (pc' := 0) i74_36 rfl <| ?_
        exact ih (x + 1) _ _ (by omega) ⟨by omega, by rw [hr, run_go (by omega) (pL_t (by omega))], by rw [hM]; exact up2_up2, rfl⟩
theorem t76 {g : AG} {M : AM} {J Z P B : Nat} {by_ : Int → Int} {n a : Int} (hSJ : ShParser g J Z P B) (hSZ : ShBytes g Z) (hJZ : J ≠ Z) (hZ : InZ M Z by_) (j3 : M J 3 = n) (hn : 0 ≤ n ∧ n ≤ 700) (ha : 0 ≤ a ∧ a ≤ n) (j4 : M J 4 = a) {st : Int} (j5 : M J 5 = st) (hst : st = a) :
    Ok 1 76 0 [aR J] [] g M (Rt none g (fun M9 => M9 J 4 = run pD by_ n a ∧ M9 J 6 = (if run pD by_ n a - st ≤ 3 then 1 else 4) ∧ M9 J 7 = numV by_ st (run pD by_ n a) ∧ (∀ y : Int, y ≠ 4 → y ≠ 6 → y ≠ 7 → M9 J y = M J y) ∧ ∀ c, c ≠ J → M9 c = M c)) := by
  refine ok_aloadn (pc' := 1) i76_0 rfl rfl <| ok_iconst (pc' := 2) i76_1 rfl <| ok_putfj (kk := 7) (pc' := 5) i76_2 o76 pi76_94 (ShParser_k0 hSJ) rfl rfl <| ?_
  refine ok_while (σ := Int) (fun x ls M9 => (a ≤ x ∧ x ≤ n) ∧ run pD by_ n a = run pD by_ n x ∧ M9 J 4 = x ∧ M9 J 7 = numV by_ st x ∧ (∀ y : Int, y ≠ 4 → y ≠ 7 → M9 J y = M J y) ∧ (∀ c, c ≠ J → M9 c = M c) ∧ ls = [aR J]) (fun x => (n - x).toNat) ?_ a _ _ ⟨by omega, rfl, by rw [rd_ni (by decide) rfl]; exact j4, by rw [hst, rd_eq]; unfold numV; rw [show (a - a).toNat = 0 by omega]; rfl, fun y c4 c7 => by rw [up2_rd, if_neg (by omega)], fun c hc => by rw [up2_na hc], rfl⟩
  rintro x ls M9 ⟨hx, hr, h49, h79, hY, hC, rfl⟩ ih
  have h39 : M9 J 3 = n := (hY 3 (by decide) (by decide)).trans j3
  have h59 : M9 J 5 = st := (hY 5 (by decide) (by decide)).trans j5
  have hZ9 : InZ M9 Z by_ := fun i h0 h1 => by rw [hC Z (Ne.symm hJZ)]; exact hZ i h0 h1
  refine ok_aloadn (pc' := 6) i76_5 rfl rfl <| ok_getfi (v := x) (pc' := 9) i76_6 o76 gi3_60 (ShParser_k0 hSJ) h49 rfl <| ok_aloadn (pc' := 10) i76_9 rfl rfl <| ok_getfi (v := n) (pc' := 13) i76_10 o76 gi3_57 (ShParser_k0 hSJ) h39 rfl <| ?_
  refine ok_cge (pc1 := 68) (pc2 := 16) i76_13 (by omega) rfl rfl (fun h1 => ?_) (fun h1 => ?_)
  · refine ok_aloadn (pc' := 69) i76_68 rfl rfl <| ok_aloadn (pc' := 70) i76_69 rfl rfl <| ok_getfi (v := x) (pc' := 73) i76_70 o76 gi3_60 (ShParser_k0 hSJ) h49 rfl <| ok_aloadn (pc' := 74) i76_73 rfl rfl <| ok_getfi (v := st) (pc' := 77) i76_74 o76 gi3_75 (ShParser_k0 hSJ) h59 rfl <| ok_isub (v := (x - st)) (pc' := 78) i76_77 rfl rfl <| ok_iconst (pc' := 79) i76_78 rfl <| ?_
    refine ok_cgt (pc1 := 86) (pc2 := 82) i76_79 (by omega) rfl rfl (fun h2 => ?_) (fun h2 => ?_)
    · refine ok_iconst (pc' := 87) i76_86 rfl <| ok_putfj (kk := 6) (pc' := 90) i76_87 o76 pi76_40 (ShParser_k0 hSJ) rfl rfl <| ok_vret i76_90 rt76 <| ?_
      refine ⟨rfl, rfl, ?_, ?_, ?_, fun y c4 c6 c7 => ?_, fun c hc => ?_⟩
      · rw [rd_ni (by decide) rfl, h49, hr, run_end (Or.inl (by omega))]
      · rw [rd_eq, hr, run_end (Or.inl (by omega)), if_neg (by omega)]
      · rw [rd_ni (by decide) rfl, h79, hr, run_end (Or.inl (by omega))]
      · rw [up2_rd, if_neg (by omega)]; exact hY y c4 c7
      · rw [up2_na hc]; exact hC c hc
    · refine ok_iconst (pc' := 83) i76_82 rfl <| ok_goto (pc' := 87) i76_83 rfl <| ok_putfj (kk := 6) (pc' := 90) i76_87 o76 pi76_40 (ShParser_k0 hSJ) rfl rfl <| ok_vret i76_90 rt76 <| ?_
      refine ⟨rfl, rfl, ?_, ?_, ?_, fun y c4 c6 c7 => ?_, fun c hc => ?_⟩
      · rw [rd_ni (by decide) rfl, h49, hr, run_end (Or.inl (by omega))]
      · rw [rd_eq, hr, run_end (Or.inl (by omega)), if_pos (by omega)]
      · rw [rd_ni (by decide) rfl, h79, hr, run_end (Or.inl (by omega))]
      · rw [up2_rd, if_neg (by omega)]; exact hY y c4 c7
      · rw [up2_na hc]; exact hC c hc
  · refine ok_aloadn (pc' := 17) i76_16 rfl rfl <| ok_getfr (r := Z) (pc' := 20) i76_17 o76 gr3_25 (ShParser_k0 hSJ) (ShParser_r0 hSJ) rfl <| ok_aloadn (pc' := 21) i76_20 rfl rfl <| ok_getfi (v := x) (pc' := 24) i76_21 o76 gi3_60 (ShParser_k0 hSJ) h49 rfl <| ?_
    have z61 : -128 ≤ (by_ x) ∧ (by_ x) < 128 := (hZ9 x (by omega) (by omega)).2
    refine ok_baload (v := (by_ x)) (pc' := 25) i76_24 (ShBytes_k0 hSZ) (by decide) (ShBytes_l0 hSZ) (by omega) (hZ9 x (by omega) (by omega)).1 rfl <| ok_cc i76_25 rfl (cl_s o76 m3_170 na75 rfl rfl (bt rfl) (bt rfl) rfl) ln75 (pd75 (aI (by_ x))) <| ok_iloadn (pc' := 1) i75_0 rfl rfl <| ok_bipush (v := 48) (pc' := 3) i75_1 rfl rfl <| ?_
    refine ok_clt (pc1 := 16) (pc2 := 6) i75_3 (by omega) rfl rfl (fun h3 => ?_) (fun h3 => ?_)
    · refine ok_iconst (pc' := 17) i75_16 rfl <| ok_iretz i75_17 rt75 (by decide) <| kt_v (pc' := 28) rfl <| ok_kz1 (pc1 := 68) (pc2 := 31) i76_28 (by decide) rfl rfl <| ok_aloadn (pc' := 69) i76_68 rfl rfl <| ok_aloadn (pc' := 70) i76_69 rfl rfl <| ok_getfi (v := x) (pc' := 73) i76_70 o76 gi3_60 (ShParser_k0 hSJ) h49 rfl <| ok_aloadn (pc' := 74) i76_73 rfl rfl <| ?_
      refine ok_getfi (v := st) (pc' := 77) i76_74 o76 gi3_75 (ShParser_k0 hSJ) h59 rfl <| ok_isub (v := (x - st)) (pc' := 78) i76_77 rfl rfl <| ok_iconst (pc' := 79) i76_78 rfl <| ?_
      refine ok_cgt (pc1 := 86) (pc2 := 82) i76_79 (by omega) rfl rfl (fun h4 => ?_) (fun h4 => ?_)
      · refine ok_iconst (pc' := 87) i76_86 rfl <| ok_putfj (kk := 6) (pc' := 90) i76_87 o76 pi76_40 (ShParser_k0 hSJ) rfl rfl <| ok_vret i76_90 rt76 <| ?_
        refine ⟨rfl, rfl, ?_, ?_, ?_, fun y c4 c6 c7 => ?_, fun c hc => ?_⟩
        · rw [rd_ni (by decide) rfl, h49, hr, run_end (Or.inr (pD_f (by omega)))]
        · rw [rd_eq, hr, run_end (Or.inr (pD_f (by omega))), if_neg (by omega)]
        · rw [rd_ni (by decide) rfl, h79, hr, run_end (Or.inr (pD_f (by omega)))]
        · rw [up2_rd, if_neg (by omega)]; exact hY y c4 c7
        · rw [up2_na hc]; exact hC c hc
      · refine ok_iconst (pc' := 83) i76_82 rfl <| ok_goto (pc' := 87) i76_83 rfl <| ok_putfj (kk := 6) (pc' := 90) i76_87 o76 pi76_40 (ShParser_k0 hSJ) rfl rfl <| ok_vret i76_90 rt76 <| ?_
        refine ⟨rfl, rfl, ?_, ?_, ?_, fun y c4 c6 c7 => ?_, fun c hc => ?_⟩
        · rw [rd_ni (by decide) rfl, h49, hr, run_end (Or.inr (pD_f (by omega)))]
        · rw [rd_eq, hr, run_end (Or.inr (pD_f (by omega))), if_pos (by omega)]
        · rw [rd_ni (by decide) rfl, h79, hr, run_end (Or.inr (pD_f (by omega)))]
        · rw [up2_rd, if_neg (by omega)]; exact hY y c4 c7
        · rw [up2_na hc]; exact hC c hc
    · refine ok_iloadn (pc' := 7) i75_6 rfl rfl <| ok_bipush (v := 57) (pc' := 9) i75_7 rfl rfl <| ?_
      refine ok_cgt (pc1 := 16) (pc2 := 12) i75_9 (by omega) rfl rfl (fun h5 => ?_) (fun h5 => ?_)
      · refine ok_iconst (pc' := 17) i75_16 rfl <| ok_iretz i75_17 rt75 (by decide) <| kt_v (pc' := 28) rfl <| ok_kz1 (pc1 := 68) (pc2 := 31) i76_28 (by decide) rfl rfl <| ok_aloadn (pc' := 69) i76_68 rfl rfl <| ok_aloadn (pc' := 70) i76_69 rfl rfl <| ok_getfi (v := x) (pc' := 73) i76_70 o76 gi3_60 (ShParser_k0 hSJ) h49 rfl <| ok_aloadn (pc' := 74) i76_73 rfl rfl <| ?_
        refine ok_getfi (v := st) (pc' := 77) i76_74 o76 gi3_75 (ShParser_k0 hSJ) h59 rfl <| ok_isub (v := (x - st)) (pc' := 78) i76_77 rfl rfl <| ok_iconst (pc' := 79) i76_78 rfl <| ?_
        refine ok_cgt (pc1 := 86) (pc2 := 82) i76_79 (by omega) rfl rfl (fun h6 => ?_) (fun h6 => ?_)
        · refine ok_iconst (pc' := 87) i76_86 rfl <| ok_putfj (kk := 6) (pc' := 90) i76_87 o76 pi76_40 (ShParser_k0 hSJ) rfl rfl <| ok_vret i76_90 rt76 <| ?_
          refine ⟨rfl, rfl, ?_, ?_, ?_, fun y c4 c6 c7 => ?_, fun c hc => ?_⟩
          · rw [rd_ni (by decide) rfl, h49, hr, run_end (Or.inr (pD_f (by omega)))]
          · rw [rd_eq, hr, run_end (Or.inr (pD_f (by omega))), if_neg (by omega)]
          · rw [rd_ni (by decide) rfl, h79, hr, run_end (Or.inr (pD_f (by omega)))]
          · rw [up2_rd, if_neg (by omega)]; exact hY y c4 c7
          · rw [up2_na hc]; exact hC c hc
        · refine ok_iconst (pc' := 83) i76_82 rfl <| ok_goto (pc' := 87) i76_83 rfl <| ok_putfj (kk := 6) (pc' := 90) i76_87 o76 pi76_40 (ShParser_k0 hSJ) rfl rfl <| ok_vret i76_90 rt76 <| ?_
          refine ⟨rfl, rfl, ?_, ?_, ?_, fun y c4 c6 c7 => ?_, fun c hc => ?_⟩
          · rw [rd_ni (by decide) rfl, h49, hr, run_end (Or.inr (pD_f (by omega)))]
          · rw [rd_eq, hr, run_end (Or.inr (pD_f (by omega))), if_pos (by omega)]
          · rw [rd_ni (by decide) rfl, h79, hr, run_end (Or.inr (pD_f (by omega)))]
          · rw [up2_rd, if_neg (by omega)]; exact hY y c4 c7
          · rw [up2_na hc]; exact hC c hc
      · refine ok_iconst (pc' := 13) i75_12 rfl <| ok_goto (pc' := 17) i75_13 rfl <| ok_iretz i75_17 rt75 (by decide) <| kt_v (pc' := 28) rfl <| ok_kz0 (pc1 := 68) (pc2 := 31) i76_28 (by decide) rfl rfl <| ok_aloadn (pc' := 32) i76_31 rfl rfl <| ok_aloadn (pc' := 33) i76_32 rfl rfl <| ok_getfi (v := (numV by_ st x)) (pc' := 36) i76_33 o76 gi3_94 (ShParser_k0 hSJ) h79 rfl <| ?_
        refine ok_bipush (v := 10) (pc' := 38) i76_36 rfl rfl <| ok_imul (v := ((numV by_ st x) * 10)) (pc' := 39) i76_38 rfl rfl <| ok_aloadn (pc' := 40) i76_39 rfl rfl <| ok_getfr (r := Z) (pc' := 43) i76_40 o76 gr3_25 (ShParser_k0 hSJ) (ShParser_r0 hSJ) rfl <| ok_aloadn (pc' := 44) i76_43 rfl rfl <| ok_getfi (v := x) (pc' := 47) i76_44 o76 gi3_60 (ShParser_k0 hSJ) h49 rfl <| ok_baload (v := (by_ x)) (pc' := 48) i76_47 (ShBytes_k0 hSZ) (by decide) (ShBytes_l0 hSZ) (by omega) (hZ9 x (by omega) (by omega)).1 rfl <| ok_iadd (v := (((numV by_ st x) * 10) + (by_ x))) (pc' := 49) i76_48 rfl rfl <| ?_
        refine ok_bipush (v := 48) (pc' := 51) i76_49 rfl rfl <| ok_isub (v := ((((numV by_ st x) * 10) + (by_ x)) - 48)) (pc' := 52) i76_51 rfl rfl <| ok_putfj (kk := 7) (pc' := 55) i76_52 o76 pi76_94 (ShParser_k0 hSJ) rfl rfl <| ok_aloadn (pc' := 56) i76_55 rfl rfl <| ok_dup (pc' := 57) i76_56 rfl rfl <| ok_getfi (v := x) (pc' := 60) i76_57 o76 gi3_60 (ShParser_k0 hSJ) (rd_ni (by decide) h49) rfl <| ok_iconst (pc' := 61) i76_60 rfl <| ok_iadd (v := (x + 1)) (pc' := 62) i76_61 rfl rfl <| ?_
        refine ok_putfj (kk := 4) (pc' := 65) i76_62 o76 pi76_60 (ShParser_k0 hSJ) rfl rfl <| ok_goto (pc' := 5) i76_65 rfl <| ?_
        refine ih (x + 1) _ _ (by omega) ⟨by omega, by rw [hr, run_go (by omega) (pD_t (by omega))], ?_, ?_, ?_, ?_, rfl⟩
        · exact rd_eq
        · rw [rd_ni (by decide) rd_eq, numV_step (by omega)]; omega
        · intro y c4 c7; rw [up2_rd, if_neg (by omega), up2_rd, if_neg (by omega)]; exact hY y c4 c7
        · intro c hc; rw [up2_na hc, up2_na hc]; exact hC c hc
theorem t71 {g : AG} {M : AM} {J Z P B : Nat} {by_ : Int → Int} {n a : Int} (hSJ : ShParser g J Z P B) (hSZ : ShBytes g Z) (hJZ : J ≠ Z) (hZ : InZ M Z by_) (j3 : M J 3 = n) (hn : 0 ≤ n ∧ n ≤ 700) (ha : 0 ≤ a ∧ a ≤ n) (j4 : M J 4 = a) :
    Ok 2 71 0 [aR J] [] g M (Rt none g (fun M9 => M9 J 4 = enS by_ n a ∧ M9 J 5 = stS by_ n a ∧ M9 J 6 = tyS by_ n a ∧ (tyS by_ n a = 1 → M9 J 7 = vaS by_ n a) ∧ (∀ y : Int, y ≠ 4 → y ≠ 5 → y ≠ 6 → y ≠ 7 → M9 J y = M J y) ∧ ∀ c, c ≠ J → M9 c = M c)) := by
  refine ok_aloadn (pc' := 1) i71_0 rfl rfl <| ?_
  refine ok_cn0 (pc' := 4) (d0 := 0) i71_1 rfl (cl_v o71 m3_160 na72 rfl rfl (bt rfl) (bt rfl) rfl (by rw [ShParser_k0 hSJ, o72])) ln72 (pd72 (aR J)) (by omega) (t72 hSJ hSZ hJZ hZ j3 hn (by omega) j4) rfl (fun M1 p2 => ?_)
  have hstr := run_ge (p := pB) (by_ := by_) (n := n) (a := a) (by omega)
  obtain ⟨st, hst⟩ : ∃ u9 : Int, u9 = run pB by_ n a := ⟨_, rfl⟩
  rw [← hst] at p2 hstr
  have hZM1 : InZ M1 Z by_ := fun i h0 h1 => by rw [p2, up2_na (Ne.symm hJZ)]; exact hZ i h0 h1
  refine ok_aloadn (pc' := 5) i71_4 rfl rfl <| ok_aloadn (pc' := 6) i71_5 rfl rfl <| ok_getfi (v := st) (pc' := 9) i71_6 o71 gi3_60 (ShParser_k0 hSJ) (by rw [p2]; exact rd_eq) rfl <| ok_putfj (kk := 5) (pc' := 12) i71_9 o71 pi71_75 (ShParser_k0 hSJ) rfl rfl <| ok_aloadn (pc' := 13) i71_12 rfl rfl <| ok_getfi (v := st) (pc' := 16) i71_13 o71 gi3_60 (ShParser_k0 hSJ) (rd_ni (by decide) (by rw [p2]; exact rd_eq)) rfl <| ok_aloadn (pc' := 17) i71_16 rfl rfl <| ok_getfi (v := n) (pc' := 20) i71_17 o71 gi3_57 (ShParser_k0 hSJ) (rd_ni (by decide) (by rw [p2]; exact rd_ni (by decide) j3)) rfl <| ?_
  refine ok_clt (pc1 := 31) (pc2 := 23) i71_20 (by omega) rfl rfl (fun h3 => ?_) (fun h3 => ?_)
  · refine ok_aloadn (pc' := 32) i71_31 rfl rfl <| ok_getfr (r := Z) (pc' := 35) i71_32 o71 gr3_25 (ShParser_k0 hSJ) (ShParser_r0 hSJ) rfl <| ok_aloadn (pc' := 36) i71_35 rfl rfl <| ok_getfi (v := st) (pc' := 39) i71_36 o71 gi3_60 (ShParser_k0 hSJ) (rd_ni (by decide) (by rw [p2]; exact rd_eq)) rfl <| ?_
    have z1 : -128 ≤ (by_ st) ∧ (by_ st) < 128 := (hZM1 st (by omega) (by omega)).2
    refine ok_baload (v := (by_ st)) (pc' := 40) i71_39 (ShBytes_k0 hSZ) (by decide) (ShBytes_l0 hSZ) (by omega) (rd_na (by omega) (hZM1 st (by omega) (by omega)).1) rfl <| ok_cc i71_40 rfl (cl_s o71 m3_163 na73 rfl rfl (bt rfl) (bt rfl) rfl) ln73 (pd73 (aI (by_ st))) <| ok_iloadn (pc' := 1) i73_0 rfl rfl <| ok_bipush (v := 97) (pc' := 3) i73_1 rfl rfl <| ?_
    refine ok_clt (pc1 := 16) (pc2 := 6) i73_3 (by omega) rfl rfl (fun h4 => ?_) (fun h4 => ?_)
    · refine ok_iconst (pc' := 17) i73_16 rfl <| ok_iretz i73_17 rt73 (by decide) <| kt_v (pc' := 43) rfl <| ok_kz1 (pc1 := 53) (pc2 := 46) i71_43 (by decide) rfl rfl <| ok_aloadn (pc' := 54) i71_53 rfl rfl <| ok_getfr (r := Z) (pc' := 57) i71_54 o71 gr3_25 (ShParser_k0 hSJ) (ShParser_r0 hSJ) rfl <| ok_aloadn (pc' := 58) i71_57 rfl rfl <| ok_getfi (v := st) (pc' := 61) i71_58 o71 gi3_60 (ShParser_k0 hSJ) (rd_ni (by decide) (by rw [p2]; exact rd_eq)) rfl <| ?_
      refine ok_baload (v := (by_ st)) (pc' := 62) i71_61 (ShBytes_k0 hSZ) (by decide) (ShBytes_l0 hSZ) (by omega) (rd_na (by omega) (hZM1 st (by omega) (by omega)).1) rfl <| ok_cc i71_62 rfl (cl_s o71 m3_170 na75 rfl rfl (bt rfl) (bt rfl) rfl) ln75 (pd75 (aI (by_ st))) <| ok_iloadn (pc' := 1) i75_0 rfl rfl <| ok_bipush (v := 48) (pc' := 3) i75_1 rfl rfl <| ?_
      refine ok_clt (pc1 := 16) (pc2 := 6) i75_3 (by omega) rfl rfl (fun h5 => ?_) (fun h5 => ?_)
      · refine ok_iconst (pc' := 17) i75_16 rfl <| ok_iretz i75_17 rt75 (by decide) <| kt_v (pc' := 65) rfl <| ok_kz1 (pc1 := 75) (pc2 := 68) i71_65 (by decide) rfl rfl <| ok_aloadn (pc' := 76) i71_75 rfl rfl <| ok_aloadn (pc' := 77) i71_76 rfl rfl <| ok_getfr (r := Z) (pc' := 80) i71_77 o71 gr3_25 (ShParser_k0 hSJ) (ShParser_r0 hSJ) rfl <| ok_aloadn (pc' := 81) i71_80 rfl rfl <| ?_
        refine ok_getfi (v := st) (pc' := 84) i71_81 o71 gi3_60 (ShParser_k0 hSJ) (rd_ni (by decide) (by rw [p2]; exact rd_eq)) rfl <| ok_baload (v := (by_ st)) (pc' := 85) i71_84 (ShBytes_k0 hSZ) (by decide) (ShBytes_l0 hSZ) (by omega) (rd_na (by omega) (hZM1 st (by omega) (by omega)).1) rfl <| ok_bipush (v := 59) (pc' := 87) i71_85 rfl rfl <| ?_
        refine ok_cne (pc1 := 94) (pc2 := 90) i71_87 (by omega) rfl rfl (fun h6 => ?_) (fun h9 => by exfalso; omega)
        refine ok_iconst (pc' := 95) i71_94 rfl <| ok_putfj (kk := 6) (pc' := 98) i71_95 o71 pi71_40 (ShParser_k0 hSJ) rfl rfl <| ok_aloadn (pc' := 99) i71_98 rfl rfl <| ok_dup (pc' := 100) i71_99 rfl rfl <| ok_getfi (v := st) (pc' := 103) i71_100 o71 gi3_60 (ShParser_k0 hSJ) (rd_ni (by decide) (rd_ni (by decide) (by rw [p2]; exact rd_eq))) rfl <| ok_iconst (pc' := 104) i71_103 rfl <| ok_iadd (v := (st + 1)) (pc' := 105) i71_104 rfl rfl <| ok_putfj (kk := 4) (pc' := 108) i71_105 o71 pi71_60 (ShParser_k0 hSJ) rfl rfl <| ?_
        refine ok_vret i71_108 rt71 <| ?_
        have e1 : stS by_ n a = st := hst.symm
        have hl : ¬ pL (by_ st) = true := by rw [pL_f (by omega)]; decide
        have hd : ¬ pD (by_ st) = true := by rw [pD_f (by omega)]; decide
        have e2 : enS by_ n a = st + 1 := by unfold enS; rw [e1, if_neg (by omega), if_neg hl, if_neg hd]
        have e3 : tyS by_ n a = 4 := by unfold tyS; rw [e1, if_neg (by omega), if_neg hl, if_neg hd, if_neg (by omega)]
        refine ⟨rfl, rfl, ?_, ?_, ?_, fun h => by omega, fun y c4 c5 c6 c7 => ?_, fun c hc => ?_⟩
        · rw [e2]; exact rd_eq
        · rw [e1]; exact rd_ni (by decide) (rd_ni (by decide) rd_eq)
        · rw [e3]; exact rd_ni (by decide) rd_eq
        · rw [up2_rd, if_neg (by omega), up2_rd, if_neg (by omega), up2_rd, if_neg (by omega), p2, up2_rd, if_neg (by omega)]
        · rw [up2_na hc, up2_na hc, up2_na hc, p2, up2_na hc]
      · refine ok_iloadn (pc' := 7) i75_6 rfl rfl <| ok_bipush (v := 57) (pc' := 9) i75_7 rfl rfl <| ?_
        refine ok_cgt (pc1 := 16) (pc2 := 12) i75_9 (by omega) rfl rfl (fun h7 => ?_) (fun h7 => ?_)
        · refine ok_iconst (pc' := 17) i75_16 rfl <| ok_iretz i75_17 rt75 (by decide) <| kt_v (pc' := 65) rfl <| ok_kz1 (pc1 := 75) (pc2 := 68) i71_65 (by decide) rfl rfl <| ok_aloadn (pc' := 76) i71_75 rfl rfl <| ok_aloadn (pc' := 77) i71_76 rfl rfl <| ok_getfr (r := Z) (pc' := 80) i71_77 o71 gr3_25 (ShParser_k0 hSJ) (ShParser_r0 hSJ) rfl <| ok_aloadn (pc' := 81) i71_80 rfl rfl <| ?_
          refine ok_getfi (v := st) (pc' := 84) i71_81 o71 gi3_60 (ShParser_k0 hSJ) (rd_ni (by decide) (by rw [p2]; exact rd_eq)) rfl <| ok_baload (v := (by_ st)) (pc' := 85) i71_84 (ShBytes_k0 hSZ) (by decide) (ShBytes_l0 hSZ) (by omega) (rd_na (by omega) (hZM1 st (by omega) (by omega)).1) rfl <| ok_bipush (v := 59) (pc' := 87) i71_85 rfl rfl <| ?_
          refine ok_cne (pc1 := 94) (pc2 := 90) i71_87 (by omega) rfl rfl (fun h8 => ?_) (fun h8 => ?_)
          · refine ok_iconst (pc' := 95) i71_94 rfl <| ok_putfj (kk := 6) (pc' := 98) i71_95 o71 pi71_40 (ShParser_k0 hSJ) rfl rfl <| ok_aloadn (pc' := 99) i71_98 rfl rfl <| ok_dup (pc' := 100) i71_99 rfl rfl <| ok_getfi (v := st) (pc' := 103) i71_100 o71 gi3_60 (ShParser_k0 hSJ) (rd_ni (by decide) (rd_ni (by decide) (by rw [p2]; exact rd_eq))) rfl <| ok_iconst (pc' := 104) i71_103 rfl <| ok_iadd (v := (st + 1)) (pc' := 105) i71_104 rfl rfl <| ok_putfj (kk := 4) (pc' := 108) i71_105 o71 pi71_60 (ShParser_k0 hSJ) rfl rfl <| ?_
            refine ok_vret i71_108 rt71 <| ?_
            have e1 : stS by_ n a = st := hst.symm
            have hl : ¬ pL (by_ st) = true := by rw [pL_f (by omega)]; decide
            have hd : ¬ pD (by_ st) = true := by rw [pD_f (by omega)]; decide
            have e2 : enS by_ n a = st + 1 := by unfold enS; rw [e1, if_neg (by omega), if_neg hl, if_neg hd]
            have e3 : tyS by_ n a = 4 := by unfold tyS; rw [e1, if_neg (by omega), if_neg hl, if_neg hd, if_neg (by omega)]
            refine ⟨rfl, rfl, ?_, ?_, ?_, fun h => by omega, fun y c4 c5 c6 c7 => ?_, fun c hc => ?_⟩
            · rw [e2]; exact rd_eq
            · rw [e1]; exact rd_ni (by decide) (rd_ni (by decide) rd_eq)
            · rw [e3]; exact rd_ni (by decide) rd_eq
            · rw [up2_rd, if_neg (by omega), up2_rd, if_neg (by omega), up2_rd, if_neg (by omega), p2, up2_rd, if_neg (by omega)]
            · rw [up2_na hc, up2_na hc, up2_na hc, p2, up2_na hc]
          · refine ok_iconst (pc' := 91) i71_90 rfl <| ok_goto (pc' := 95) i71_91 rfl <| ok_putfj (kk := 6) (pc' := 98) i71_95 o71 pi71_40 (ShParser_k0 hSJ) rfl rfl <| ok_aloadn (pc' := 99) i71_98 rfl rfl <| ok_dup (pc' := 100) i71_99 rfl rfl <| ok_getfi (v := st) (pc' := 103) i71_100 o71 gi3_60 (ShParser_k0 hSJ) (rd_ni (by decide) (rd_ni (by decide) (by rw [p2]; exact rd_eq))) rfl <| ok_iconst (pc' := 104) i71_103 rfl <| ok_iadd (v := (st + 1)) (pc' := 105) i71_104 rfl rfl <| ?_
            refine ok_putfj (kk := 4) (pc' := 108) i71_105 o71 pi71_60 (ShParser_k0 hSJ) rfl rfl <| ok_vret i71_108 rt71 <| ?_
            have e1 : stS by_ n a = st := hst.symm
            have hl : ¬ pL (by_ st) = true := by rw [pL_f (by omega)]; decide
            have hd : ¬ pD (by_ st) = true := by rw [pD_f (by omega)]; decide
            have e2 : enS by_ n a = st + 1 := by unfold enS; rw [e1, if_neg (by omega), if_neg hl, if_neg hd]
            have e3 : tyS by_ n a = 2 := by unfold tyS; rw [e1, if_neg (by omega), if_neg hl, if_neg hd, if_pos (by omega)]
            refine ⟨rfl, rfl, ?_, ?_, ?_, fun h => by omega, fun y c4 c5 c6 c7 => ?_, fun c hc => ?_⟩
            · rw [e2]; exact rd_eq
            · rw [e1]; exact rd_ni (by decide) (rd_ni (by decide) rd_eq)
            · rw [e3]; exact rd_ni (by decide) rd_eq
            · rw [up2_rd, if_neg (by omega), up2_rd, if_neg (by omega), up2_rd, if_neg (by omega), p2, up2_rd, if_neg (by omega)]
            · rw [up2_na hc, up2_na hc, up2_na hc, p2, up2_na hc]
        · refine ok_iconst (pc' := 13) i75_12 rfl <| ok_goto (pc' := 17) i75_13 rfl <| ok_iretz i75_17 rt75 (by decide) <| kt_v (pc' := 65) rfl <| ok_kz0 (pc1 := 75) (pc2 := 68) i71_65 (by decide) rfl rfl <| ok_aloadn (pc' := 69) i71_68 rfl rfl <| ?_
          obtain ⟨M8, hM8⟩ : ∃ u9 : AM, u9 = (up2 M1 J 5 st) := ⟨_, rfl⟩
          show Ok _ _ _ _ _ _ (up2 M1 J 5 st) _
          rw [← hM8]
          have h83 : M8 J 3 = n := by rw [hM8]; exact rd_ni (by decide) (by rw [p2]; exact rd_ni (by decide) j3)
          have h84 : M8 J 4 = st := by rw [hM8]; exact rd_ni (by decide) (by rw [p2]; exact rd_eq)
          have h85 : M8 J 5 = st := by rw [hM8]; exact rd_eq
          have hZ8 : InZ M8 Z by_ := fun i h0 h1 => by rw [hM8, up2_na (Ne.symm hJZ)]; exact hZM1 i h0 h1
          have hC8 : ∀ c, c ≠ J → M8 c = M c := fun c hc => by rw [hM8, up2_na hc, p2, up2_na hc]
          have hY8 : ∀ y : Int, y ≠ 4 → y ≠ 5 → M8 J y = M J y := fun y c4 c5 => by rw [hM8, up2_rd, if_neg (by omega), p2, up2_rd, if_neg (by omega)]
          refine ok_cn0 (pc' := 72) (d0 := 1) i71_69 rfl (cl_v o71 m3_173 na76 rfl rfl (bt rfl) (bt rfl) rfl (by rw [ShParser_k0 hSJ, o76])) ln76 (pd76 (aR J)) (by omega) (t76 hSJ hSZ hJZ hZ8 h83 hn (by omega) h84 h85 (by omega)) rfl (fun M9 p10 => ?_)
          refine ok_goto (pc' := 108) i71_72 rfl <| ok_vret i71_108 rt71 <| ?_
          have e1 : stS by_ n a = st := hst.symm
          have hl : ¬ pL (by_ st) = true := by rw [pL_f (by omega)]; decide
          have hd : pD (by_ st) = true := pD_t (by omega)
          have e2 : enS by_ n a = run pD by_ n st := by unfold enS; rw [e1, if_neg (by omega), if_neg hl, if_pos hd]
          have e3 : tyS by_ n a = (if run pD by_ n st - st ≤ 3 then 1 else 4) := by unfold tyS; rw [e1, if_neg (by omega), if_neg hl, if_pos hd]
          exact ⟨rfl, rfl, by rw [e2]; exact p10.1, by rw [e1]; exact (p10.2.2.2.1 5 (by decide) (by decide) (by decide)).trans h85, by rw [e3]; exact p10.2.1, fun _ => by unfold vaS; rw [e1]; exact p10.2.2.1, fun y c4 c5 c6 c7 => (p10.2.2.2.1 y c4 c6 c7).trans (hY8 y c4 c5), fun c hc => (p10.2.2.2.2 c hc).trans (hC8 c hc)⟩
    · refine ok_iloadn (pc' := 7) i73_6 rfl rfl <| ok_bipush (v := 122) (pc' := 9) i73_7 rfl rfl <| ?_
      refine ok_cgt (pc1 := 16) (pc2 := 12) i73_9 (by omega) rfl rfl (fun h11 => ?_) (fun h11 => ?_)
      · refine ok_iconst (pc' := 17) i73_16 rfl <| ok_iretz i73_17 rt73 (by decide) <| kt_v (pc' := 43) rfl <| ok_kz1 (pc1 := 53) (pc2 := 46) i71_43 (by decide) rfl rfl <| ok_aloadn (pc' := 54) i71_53 rfl rfl <| ok_getfr (r := Z) (pc' := 57) i71_54 o71 gr3_25 (ShParser_k0 hSJ) (ShParser_r0 hSJ) rfl <| ok_aloadn (pc' := 58) i71_57 rfl rfl <| ok_getfi (v := st) (pc' := 61) i71_58 o71 gi3_60 (ShParser_k0 hSJ) (rd_ni (by decide) (by rw [p2]; exact rd_eq)) rfl <| ?_
        refine ok_baload (v := (by_ st)) (pc' := 62) i71_61 (ShBytes_k0 hSZ) (by decide) (ShBytes_l0 hSZ) (by omega) (rd_na (by omega) (hZM1 st (by omega) (by omega)).1) rfl <| ok_cc i71_62 rfl (cl_s o71 m3_170 na75 rfl rfl (bt rfl) (bt rfl) rfl) ln75 (pd75 (aI (by_ st))) <| ok_iloadn (pc' := 1) i75_0 rfl rfl <| ok_bipush (v := 48) (pc' := 3) i75_1 rfl rfl <| ?_
        refine ok_clt (pc1 := 16) (pc2 := 6) i75_3 (by omega) rfl rfl (fun h9 => by exfalso; omega) (fun h12 => ?_)
        refine ok_iloadn (pc' := 7) i75_6 rfl rfl <| ok_bipush (v := 57) (pc' := 9) i75_7 rfl rfl <| ?_
        refine ok_cgt (pc1 := 16) (pc2 := 12) i75_9 (by omega) rfl rfl (fun h13 => ?_) (fun h9 => by exfalso; omega)
        refine ok_iconst (pc' := 17) i75_16 rfl <| ok_iretz i75_17 rt75 (by decide) <| kt_v (pc' := 65) rfl <| ok_kz1 (pc1 := 75) (pc2 := 68) i71_65 (by decide) rfl rfl <| ok_aloadn (pc' := 76) i71_75 rfl rfl <| ok_aloadn (pc' := 77) i71_76 rfl rfl <| ok_getfr (r := Z) (pc' := 80) i71_77 o71 gr3_25 (ShParser_k0 hSJ) (ShParser_r0 hSJ) rfl <| ok_aloadn (pc' := 81) i71_80 rfl rfl <| ?_
        refine ok_getfi (v := st) (pc' := 84) i71_81 o71 gi3_60 (ShParser_k0 hSJ) (rd_ni (by decide) (by rw [p2]; exact rd_eq)) rfl <| ok_baload (v := (by_ st)) (pc' := 85) i71_84 (ShBytes_k0 hSZ) (by decide) (ShBytes_l0 hSZ) (by omega) (rd_na (by omega) (hZM1 st (by omega) (by omega)).1) rfl <| ok_bipush (v := 59) (pc' := 87) i71_85 rfl rfl <| ?_
        refine ok_cne (pc1 := 94) (pc2 := 90) i71_87 (by omega) rfl rfl (fun h14 => ?_) (fun h9 => by exfalso; omega)
        refine ok_iconst (pc' := 95) i71_94 rfl <| ok_putfj (kk := 6) (pc' := 98) i71_95 o71 pi71_40 (ShParser_k0 hSJ) rfl rfl <| ok_aloadn (pc' := 99) i71_98 rfl rfl <| ok_dup (pc' := 100) i71_99 rfl rfl <| ok_getfi (v := st) (pc' := 103) i71_100 o71 gi3_60 (ShParser_k0 hSJ) (rd_ni (by decide) (rd_ni (by decide) (by rw [p2]; exact rd_eq))) rfl <| ok_iconst (pc' := 104) i71_103 rfl <| ok_iadd (v := (st + 1)) (pc' := 105) i71_104 rfl rfl <| ok_putfj (kk := 4) (pc' := 108) i71_105 o71 pi71_60 (ShParser_k0 hSJ) rfl rfl <| ?_
        refine ok_vret i71_108 rt71 <| ?_
        have e1 : stS by_ n a = st := hst.symm
        have hl : ¬ pL (by_ st) = true := by rw [pL_f (by omega)]; decide
        have hd : ¬ pD (by_ st) = true := by rw [pD_f (by omega)]; decide
        have e2 : enS by_ n a = st + 1 := by unfold enS; rw [e1, if_neg (by omega), if_neg hl, if_neg hd]
        have e3 : tyS by_ n a = 4 := by unfold tyS; rw [e1, if_neg (by omega), if_neg hl, if_neg hd, if_neg (by omega)]
        refine ⟨rfl, rfl, ?_, ?_, ?_, fun h => by omega, fun y c4 c5 c6 c7 => ?_, fun c hc => ?_⟩
        · rw [e2]; exact rd_eq
        · rw [e1]; exact rd_ni (by decide) (rd_ni (by decide) rd_eq)
        · rw [e3]; exact rd_ni (by decide) rd_eq
        · rw [up2_rd, if_neg (by omega), up2_rd, if_neg (by omega), up2_rd, if_neg (by omega), p2, up2_rd, if_neg (by omega)]
        · rw [up2_na hc, up2_na hc, up2_na hc, p2, up2_na hc]
      · refine ok_iconst (pc' := 13) i73_12 rfl <| ok_goto (pc' := 17) i73_13 rfl <| ok_iretz i73_17 rt73 (by decide) <| kt_v (pc' := 43) rfl <| ok_kz0 (pc1 := 53) (pc2 := 46) i71_43 (by decide) rfl rfl <| ok_aloadn (pc' := 47) i71_46 rfl rfl <| ?_
        obtain ⟨M8, hM8⟩ : ∃ u9 : AM, u9 = (up2 M1 J 5 st) := ⟨_, rfl⟩
        show Ok _ _ _ _ _ _ (up2 M1 J 5 st) _
        rw [← hM8]
        have h83 : M8 J 3 = n := by rw [hM8]; exact rd_ni (by decide) (by rw [p2]; exact rd_ni (by decide) j3)
        have h84 : M8 J 4 = st := by rw [hM8]; exact rd_ni (by decide) (by rw [p2]; exact rd_eq)
        have h85 : M8 J 5 = st := by rw [hM8]; exact rd_eq
        have hZ8 : InZ M8 Z by_ := fun i h0 h1 => by rw [hM8, up2_na (Ne.symm hJZ)]; exact hZM1 i h0 h1
        have hC8 : ∀ c, c ≠ J → M8 c = M c := fun c hc => by rw [hM8, up2_na hc, p2, up2_na hc]
        have hY8 : ∀ y : Int, y ≠ 4 → y ≠ 5 → M8 J y = M J y := fun y c4 c5 => by rw [hM8, up2_rd, if_neg (by omega), p2, up2_rd, if_neg (by omega)]
        refine ok_cn0 (pc' := 50) (d0 := 1) i71_47 rfl (cl_v o71 m3_167 na74 rfl rfl (bt rfl) (bt rfl) rfl (by rw [ShParser_k0 hSJ, o74])) ln74 (pd74 (aR J)) (by omega) (t74 hSJ hSZ hJZ hZ8 h83 hn (by omega) h84 h85 (by omega)) rfl (fun M15 p16 => ?_)
        refine ok_goto (pc' := 108) i71_50 rfl <| ok_vret i71_108 rt71 <| ?_
        have e1 : stS by_ n a = st := hst.symm
        have hl : pL (by_ st) = true := pL_t (by omega)
        have e2 : enS by_ n a = run pL by_ n st := by unfold enS; rw [e1, if_neg (by omega), if_pos hl]
        have e3 : tyS by_ n a = (if run pL by_ n st - st ≤ 8 then 0 else 4) := by unfold tyS; rw [e1, if_neg (by omega), if_pos hl]
        refine ⟨rfl, rfl, ?_, ?_, ?_, fun h => by rw [e3] at h; split at h <;> omega, fun y c4 c5 c6 c7 => ?_, fun c hc => ?_⟩
        · rw [e2, p16]; exact rd_ni (by decide) rd_eq
        · rw [e1, p16]; exact rd_ni (by decide) (rd_ni (by decide) h85)
        · rw [e3, p16]; exact rd_eq
        · rw [p16, up2_rd, if_neg (by omega), up2_rd, if_neg (by omega)]; exact hY8 y c4 c5
        · rw [p16, up2_na hc, up2_na hc]; exact hC8 c hc
  · refine ok_aloadn (pc' := 24) i71_23 rfl rfl <| ok_iconst (pc' := 25) i71_24 rfl <| ok_putfj (kk := 6) (pc' := 28) i71_25 o71 pi71_40 (ShParser_k0 hSJ) rfl rfl <| ok_goto (pc' := 108) i71_28 rfl <| ok_vret i71_108 rt71 <| ?_
    have e1 : stS by_ n a = st := hst.symm
    have e2 : enS by_ n a = st := by unfold enS; rw [e1, if_pos (by omega)]
    have e3 : tyS by_ n a = 3 := by unfold tyS; rw [e1, if_pos (by omega)]
    refine ⟨rfl, rfl, ?_, ?_, ?_, fun h => by omega, fun y c4 c5 c6 c7 => ?_, fun c hc => ?_⟩
    · rw [e2]; exact rd_ni (by decide) (rd_ni (by decide) (by rw [p2]; exact rd_eq))
    · rw [e1]; exact rd_ni (by decide) rd_eq
    · rw [e3]; exact rd_eq
    · rw [up2_rd, if_neg (by omega), up2_rd, if_neg (by omega), p2, up2_rd, if_neg (by omega)]
    · rw [up2_na hc, up2_na hc, p2, up2_na hc]

