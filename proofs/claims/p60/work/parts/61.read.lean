/-! READTEXT: the class (by program, wip/gen) -/
/-! READTEXT: the class -/
def zro : Int → Int := fun _ => 0
theorem Wds.fr {g : AG} {M M9 : AM} (h : Wds g M 10 12 14 16 18 20 22) (e : ∀ c : Nat, c < 24 → M9 c = M c) : Wds g M9 10 12 14 16 18 20 22 := by
  obtain ⟨h0, h1, h2, h3, h4, h5, h6⟩ := h
  exact ⟨h0.fr (e _ (by decide)), h1.fr (e _ (by decide)), h2.fr (e _ (by decide)), h3.fr (e _ (by decide)), h4.fr (e _ (by decide)), h5.fr (e _ (by decide)), h6.fr (e _ (by decide))⟩
def txtN (by_ : Int → Int) (n : Int) : Nat → Int → (Int → Int) → (Int → Int) → LR
  | 0, a, _, _ => .inl (1, stS by_ n a)
  | k + 1, a, q, s => if tyS by_ n a = 3 then .inr (enS by_ n a, q, s) else if tyS by_ n a ≠ 2 then .inl (1, stS by_ n a) else match lineL by_ n q s (enS by_ n a) with
    | .inl e => .inl e
    | .inr x => txtN by_ n k x.1 x.2.1 x.2.2
def txtL (by_ : Int → Int) (n : Int) (z0 : Int → Int) : LR := match hdL by_ n zro z0 0 with
  | .inl e => .inl e
  | .inr x => txtN by_ n ((n - x.1).toNat + 1) x.1 x.2.1 x.2.2
def Idle (M : AM) (B : Nat) : Prop := M B 0 = 0 ∧ M B 7 = 0 ∧ (∀ i : Int, 0 ≤ i → i < 8 → M (B + 23) i = 0) ∧ ∀ i : Int, 0 ≤ i → i ≤ 200 → M (B + 17) i = 0
def LPt (M9 : AM) (J P B : Nat) : LR → Prop
  | .inl e => M9 J 8 = e.1 ∧ M9 J 5 = e.2
  | .inr x => RepP M9 P x.2.1 ∧ RepS M9 B x.2.2
def Z0 (z0 : Int → Int) : Prop := ∀ j : Int, 0 ≤ j → j < 983 → z0 j = 0
def KZ (s : Int → Int) : Prop := ∀ j : Int, 0 ≤ j → j < 983 → (j < 14 ∧ j ≠ 1 ∧ j ≠ 2 ∧ j ≠ 3 ∧ j ≠ 4) ∨ 542 ≤ j → s j = 0
theorem KZ_keep {s s' : Int → Int} (h : KZ s) (k : Keep s s') : KZ s' := fun j j0 j1 hj => (k j (by omega)).trans (h j j0 j1 hj)
theorem Idle_S {M : AM} {B : Nat} {s : Int → Int} (h : RepS M B s) (k : KZ s) : Idle M B := ⟨(RepS_f0 h).trans (k 0 (by omega) (by omega) (by omega)), (RepS_f7 h).trans (k 5 (by omega) (by omega) (by omega)), fun i h0 h1 => (RepS_23 h h0 h1).trans (k _ (by omega) (by omega) (by omega)), fun i h0 h1 => (RepS_17 h h0 h1).trans (k _ (by omega) (by omega) (by omega))⟩
theorem Idle_fr {M M9 : AM} {B : Nat} (h : Idle M B) (e : ∀ a, B ≤ a → a < B + 24 → a ≠ B + 1 → M9 a = M a) : Idle M9 B := by
  obtain ⟨h1, h2, h3, h4⟩ := h
  exact ⟨by rw [e _ (by omega) (by omega) (by omega)]; exact h1, by rw [e _ (by omega) (by omega) (by omega)]; exact h2, fun i g0 g1 => by rw [e _ (by omega) (by omega) (by omega)]; exact h3 i g0 g1, fun i g0 g1 => by rw [e _ (by omega) (by omega) (by omega)]; exact h4 i g0 g1⟩
theorem RepS_idle {M : AM} {B : Nat} {z0 : Int → Int} (h : Idle M B) (hz : Z0 z0) : RepS (up2 (up2 M B 2 0) B 4 0) B (upI (upI z0 1 (M (B + 1) 0)) 2 (M (B + 1) 1)) := by
  obtain ⟨h1, h2, h3, h4⟩ := h
  have e : ∀ j : Int, 0 ≤ j → j < 983 → j ≠ 1 → j ≠ 2 → upI (upI z0 1 (M (B + 1) 0)) 2 (M (B + 1) 1) j = 0 := fun j j0 j1 j2 j3 => by rw [upI_ne j3, upI_ne j2]; exact hz j j0 j1
  refine ⟨?_, ?_, ?_, ?_, ?_, ?_, ?_, ?_, ?_, ?_⟩
  · rw [e _ (by omega) (by omega) (by omega) (by omega), up2_rd, if_neg (by omega), up2_rd, if_neg (by omega)]; exact h1
  · rw [e _ (by omega) (by omega) (by omega) (by omega), up2_rd, if_neg (by omega)]; exact rd_eq
  · rw [e _ (by omega) (by omega) (by omega) (by omega)]; exact rd_eq
  · rw [e _ (by omega) (by omega) (by omega) (by omega), up2_rd, if_neg (by omega), up2_rd, if_neg (by omega)]; exact h2
  · intro i g0 g1
    rw [up2_na (by omega), up2_na (by omega)]
    rcases (show i = 0 ∨ i = 1 by omega) with rfl | rfl <;> rfl
  · intro i g0 g1
    rw [up2_na (by omega), up2_na (by omega), e _ (by omega) (by omega) (by omega) (by omega)]; exact h3 i g0 g1
  · intro i g0 g1
    rw [up2_na (by omega), up2_na (by omega), e _ (by omega) (by omega) (by omega) (by omega)]; exact h4 i g0 g1
  · intro w hw i g0 g1
    rw [e 3 (by omega) (by omega) (by omega) (by omega)] at g1; omega
  · intro w hw i g0 g1
    rw [e 4 (by omega) (by omega) (by omega) (by omega)] at g1; omega
  · intro w hw i g0 g1
    rw [e 5 (by omega) (by omega) (by omega) (by omega)] at g1; omega
theorem RepP_zro {M : AM} {P : Nat} : RepP (up2 (up2 M P 0 0) P 3 0) P zro := by
  refine ⟨by rw [up2_rd, if_neg (by omega)]; exact rd_eq, rd_eq, fun i g0 g1 => ?_, fun i g0 g1 => ?_, fun i g0 g1 => ?_, fun w hw hw2 i g0 g1 => ?_⟩
  · exact absurd (show i < 0 from g1) (by omega)
  · exact absurd (show i < 0 from g1) (by omega)
  · exact absurd (show i < 0 from g1) (by omega)
  · exact absurd (show (w : Int) < 0 from hw2) (by omega)
theorem hdL_ok {by_ : Int → Int} {n a : Int} {z0 : Int → Int} {x : Int × (Int → Int) × (Int → Int)} (ha : 0 ≤ a ∧ a ≤ n) (hz : Z0 z0) (h : hdL by_ n zro z0 a = .inr x) : (a ≤ x.1 ∧ x.1 ≤ n) ∧ Val 0 x.2.1 x.2.2 ∧ KZ x.2.2 ∧ ZR x.2.2 ∧ x.2.2 3 ≤ 24 ∧ x.2.2 4 ≤ 12 := by
  unfold hdL at h
  have r1 := en_rg (by_ := by_) (n := n) (a := a) (by omega)
  have r2 := en_rg (by_ := by_) (n := n) (a := enS by_ n a) (by omega)
  have r3 := en_rg (by_ := by_) (n := n) (a := enS by_ n (enS by_ n a)) (by omega)
  have r4 := en_rg (by_ := by_) (n := n) (a := enS by_ n (enS by_ n (enS by_ n a))) (by omega)
  have r5 := en_rg (by_ := by_) (n := n) (a := enS by_ n (enS by_ n (enS by_ n (enS by_ n a)))) (by omega)
  split at h; · cases h
  split at h; · cases h
  split at h; · cases h
  split at h; · cases h
  split at h; · cases h
  cases h
  have v1 := (nu_ok (by_ := by_) (n := n) (lo := 0) (hi := 9) (a := enS by_ n (enS by_ n a)) (by assumption)).2.2
  have v2 := (nu_ok (by_ := by_) (n := n) (lo := 1) (hi := 200) (a := enS by_ n (enS by_ n (enS by_ n (enS by_ n a)))) (by assumption)).2.2
  generalize vaS by_ n (enS by_ n (enS by_ n a)) = v at *
  generalize vaS by_ n (enS by_ n (enS by_ n (enS by_ n (enS by_ n a)))) = w at *
  have e : ∀ j : Int, 0 ≤ j → j < 983 → j ≠ 1 → j ≠ 2 → upI (upI z0 1 v) 2 w j = 0 := fun j j0 j1 h1 h2 => by rw [upI_ne h2, upI_ne h1]; exact hz j j0 j1
  refine ⟨by dsimp only; omega, ?_, fun j j0 j1 hj => e j j0 j1 (by omega) (by omega), fun j g0 g1 => e j (by omega) (by omega) (by omega) (by omega), by dsimp only; rw [e _ (by omega) (by omega) (by omega) (by omega)]; omega, by dsimp only; rw [e _ (by omega) (by omega) (by omega) (by omega)]; omega⟩
  dsimp only
  refine ⟨by omega, by rw [e _ (by omega) (by omega) (by omega) (by omega)]; omega, v1, by rw [upI_eq]; omega, by rw [e _ (by omega) (by omega) (by omega) (by omega)]; omega, by rw [e _ (by omega) (by omega) (by omega) (by omega)]; omega, by rw [e _ (by omega) (by omega) (by omega) (by omega)]; omega, fun i g0 g1 => ?_, fun i g0 g1 => ?_, fun l g0 g1 => by rw [e _ (by omega) (by omega) (by omega) (by omega)]; omega, ⟨by show (0 : Int) ≤ 0 ∧ (0 : Int) ≤ 4; omega, by show (0 : Int) ≤ 0 ∧ (0 : Int) ≤ 6; omega, fun i g0 g1 => ?_, fun i g0 g1 => ?_⟩⟩
  · rw [e _ (by omega) (by omega) (by omega) (by omega)] at g1; omega
  · rw [e _ (by omega) (by omega) (by omega) (by omega)] at g1; omega
  · exact absurd (show i < 0 from g1) (by omega)
  · exact absurd (show i < 0 from g1) (by omega)
theorem txtN_ok {by_ : Int → Int} {n : Int} : ∀ (k : Nat) (a : Int) (q s : Int → Int) (x : Int × (Int → Int) × (Int → Int)), 0 ≤ a ∧ a ≤ n → Val 0 q s → KZ s → ZR s → s 3 ≤ 24 → s 4 ≤ 12 → txtN by_ n k a q s = .inr x → Val 0 x.2.1 x.2.2 ∧ KZ x.2.2 ∧ ZR x.2.2 ∧ x.2.2 3 ≤ 24 ∧ x.2.2 4 ≤ 12 := by
  intro k
  induction k with
  | zero => intro a q s x _ _ _ _ _ _ h; rw [txtN] at h; cases h
  | succ k ih =>
    intro a q s x ha hV hK hZ h3 h4 h
    rw [txtN] at h
    have r1 := en_rg (by_ := by_) (n := n) (a := a) (by omega)
    split at h
    · cases h; exact ⟨hV, hK, hZ, h3, h4⟩
    · split at h
      · cases h
      · split at h
        · cases h
        · next y hy =>
          obtain ⟨i1, i2, i3, i4, i5, i6⟩ := lineL_ok hV (by omega) hy
          exact ih _ _ _ x (by omega) i2 (KZ_keep hK i3) (i4 hZ) (i5 h3) (i6 h4) h
theorem txtL_ok {by_ : Int → Int} {n : Int} {z0 : Int → Int} {x : Int × (Int → Int) × (Int → Int)} (hn : 0 ≤ n) (hz : Z0 z0) (h : txtL by_ n z0 = .inr x) : Val 0 x.2.1 x.2.2 ∧ KZ x.2.2 ∧ ZR x.2.2 ∧ x.2.2 3 ≤ 24 ∧ x.2.2 4 ≤ 12 := by
  unfold txtL at h
  split at h
  · cases h
  · next y hy =>
    obtain ⟨i1, i2, i3, i4, i5, i6⟩ := hdL_ok (by omega) hz hy
    exact txtN_ok _ _ _ _ x i1 i2 i3 i4 i5 i6 h
theorem o67 : am_oc 67 = 3 := by decide +kernel
theorem m3_29 : am_mlk 3 29 0 68 = true := by decide +kernel
theorem na68 : am_na 68 = 1 := by decide +kernel
theorem nl68 : am_nL 68 = 2 := by decide +kernel
theorem pd68 : ∀ a0 a1 : AV, am_pad 68 [a0, a1] = [a0, a1] := by intros; unfold am_pad; rw [nl68]; rfl
theorem ln68 : 2 ≤ am_nL 68 := by rw [nl68]; decide
theorem o68 : am_oc 68 = 3 := by decide +kernel
theorem m3_51 : am_mlk 3 51 7 0 = true := by decide +kernel
theorem pi68_57 : am_pfi 68 3 57 3 3 = true := by decide +kernel
theorem pi68_60 : am_pfi 68 3 60 3 4 = true := by decide +kernel
theorem pi68_63 : am_pfi 68 3 63 4 0 = true := by decide +kernel
theorem pi68_66 : am_pfi 68 3 66 4 3 = true := by decide +kernel
theorem pi68_69 : am_pfi 68 3 69 5 2 = true := by decide +kernel
theorem pi68_72 : am_pfi 68 3 72 5 4 = true := by decide +kernel
theorem rt68 : am_rt 68 = none := by decide +kernel
theorem m3_33 : am_mlk 3 33 0 69 = true := by decide +kernel
theorem na69 : am_na 69 = 0 := by decide +kernel
theorem nl69 : am_nL 69 = 1 := by decide +kernel
theorem pd69 : ∀ a0 : AV, am_pad 69 [a0] = [a0] := by intros; unfold am_pad; rw [nl69]; rfl
theorem ln69 : 1 ≤ am_nL 69 := by rw [nl69]; decide
theorem rt67 : am_rt 67 = some .boolean := by decide +kernel
theorem m3_48 : am_mlk 3 48 0 80 = true := by decide +kernel
theorem na80 : am_na 80 = 0 := by decide +kernel
theorem nl80 : am_nL 80 = 1 := by decide +kernel
theorem pd80 : ∀ a0 : AV, am_pad 80 [a0] = [a0] := by intros; unfold am_pad; rw [nl80]; rfl
theorem ln80 : 1 ≤ am_nL 80 := by rw [nl80]; decide
theorem t67 {g : AG} {M : AM} {J Z P B : Nat} {by_ z0 : Int → Int} {n : Int} (hSJ : ShParser g J Z P B) (hSZ : ShBytes g Z) (hSP : ShPlan g P) (hSB : ShState g B) (hgeo : Z < J ∧ J < P ∧ P + 11 ≤ B) (hZ : InZ M Z by_) (hn : 0 ≤ n ∧ n ≤ 700) (h24 : 24 ≤ Z) (hWD : Wds g M 10 12 14 16 18 20 22) (hI : Idle M B) (hz : Z0 z0) :
    Ok 7 67 0 [aR J, aI n, aU] [] g M (Rt (some (aI (lrB (txtL by_ n z0)))) g (fun M9 => LPt M9 J P B (txtL by_ n z0) ∧ Idle M9 B ∧ ∀ c, (c < J ∨ B + 24 ≤ c) → M9 c = M c)) := by
  refine ok_aloadn (pc' := 1) i67_0 rfl rfl <| ok_iloadn (pc' := 2) i67_1 rfl rfl <| ok_cc i67_2 rfl (cl_v o67 m3_29 na68 rfl rfl (bt rfl) (bt rfl) rfl (by rw [ShParser_k0 hSJ, o68])) ln68 (pd68 (aR J) (aI n)) <| ok_aloadn (pc' := 1) i68_0 rfl rfl <| ok_iloadn (pc' := 2) i68_1 rfl rfl <| ok_sipush (v := 700) (pc' := 5) i68_2 rfl rfl <| ok_min (v := (min n 700)) (pc' := 8) i68_5 o68 m3_51 (by omega) (bt rfl) rfl rfl <| ?_
  have z1 : (min n 700) ≤ n ∧ (min n 700) ≤ 700 := by omega
  have z2 : 0 ≤ (min n 700) := by omega
  refine ok_putfj (kk := 3) (pc' := 11) i68_8 o68 pi68_57 (ShParser_k0 hSJ) rfl rfl <| ok_aloadn (pc' := 12) i68_11 rfl rfl <| ok_iconst (pc' := 13) i68_12 rfl <| ok_putfj (kk := 4) (pc' := 16) i68_13 o68 pi68_60 (ShParser_k0 hSJ) rfl rfl <| ok_aloadn (pc' := 17) i68_16 rfl rfl <| ok_getfr (r := P) (pc' := 20) i68_17 o68 gr3_12 (ShParser_k0 hSJ) (ShParser_r1 hSJ) rfl <| ok_iconst (pc' := 21) i68_20 rfl <| ok_putfj (kk := 0) (pc' := 24) i68_21 o68 pi68_63 (ShPlan_k0 hSP) rfl rfl <| ?_
  refine ok_aloadn (pc' := 25) i68_24 rfl rfl <| ok_getfr (r := P) (pc' := 28) i68_25 o68 gr3_12 (ShParser_k0 hSJ) (ShParser_r1 hSJ) rfl <| ok_iconst (pc' := 29) i68_28 rfl <| ok_putfj (kk := 3) (pc' := 32) i68_29 o68 pi68_66 (ShPlan_k0 hSP) rfl rfl <| ok_aloadn (pc' := 33) i68_32 rfl rfl <| ok_getfr (r := B) (pc' := 36) i68_33 o68 gr3_21 (ShParser_k0 hSJ) (ShParser_r2 hSJ) rfl <| ok_iconst (pc' := 37) i68_36 rfl <| ok_putfj (kk := 2) (pc' := 40) i68_37 o68 pi68_69 (ShState_k0 hSB) rfl rfl <| ?_
  refine ok_aloadn (pc' := 41) i68_40 rfl rfl <| ok_getfr (r := B) (pc' := 44) i68_41 o68 gr3_21 (ShParser_k0 hSJ) (ShParser_r2 hSJ) rfl <| ok_iconst (pc' := 45) i68_44 rfl <| ok_putfj (kk := 4) (pc' := 48) i68_45 o68 pi68_72 (ShState_k0 hSB) rfl rfl <| ok_vret i68_48 rt68 <| kt_0 (pc' := 5) rfl <| ok_aloadn (pc' := 6) i67_5 rfl rfl <| ?_
  obtain ⟨M8, hM8⟩ : ∃ u9 : AM, u9 = (up2 (up2 (up2 (up2 (up2 (up2 M J 3 (min n 700)) J 4 0) P 0 0) P 3 0) B 2 0) B 4 0) := ⟨_, rfl⟩
  show Ok _ _ _ _ _ _ (up2 (up2 (up2 (up2 (up2 (up2 M J 3 (min n 700)) J 4 0) P 0 0) P 3 0) B 2 0) B 4 0) _
  rw [← hM8]
  have hmn : min n 700 = n := by omega
  have j3 : M8 J 3 = n := by rw [hM8, up2_na (by omega), up2_na (by omega), up2_na (by omega), up2_na (by omega), up2_rd, if_neg (by omega), up2_rd, if_pos ⟨rfl, rfl⟩]; exact hmn
  have j4 : M8 J 4 = 0 := by rw [hM8, up2_na (by omega), up2_na (by omega), up2_na (by omega), up2_na (by omega)]; exact rd_eq
  have hC8 : ∀ c, (c < J ∨ B + 24 ≤ c) → M8 c = M c := fun c hc => by rw [hM8, up2_na (by omega), up2_na (by omega), up2_na (by omega), up2_na (by omega), up2_na (by omega), up2_na (by omega)]
  have hP8 : RepP M8 P zro := by rw [hM8]; exact RepP.fr RepP_zro (fun a h1 h2 => by rw [up2_na (by omega), up2_na (by omega)])
  obtain ⟨M7, hM7⟩ : ∃ u9 : AM, u9 = (up2 (up2 (up2 (up2 M J 3 (min n 700)) J 4 0) P 0 0) P 3 0) := ⟨_, rfl⟩
  have hI7 : Idle M7 B := Idle_fr hI (fun a h1 h2 h3 => by rw [hM7, up2_na (by omega), up2_na (by omega), up2_na (by omega), up2_na (by omega)])
  rw [← hM7] at hM8
  have hR8 := RepS_idle hI7 hz
  rw [← hM8] at hR8
  have hI8 : Idle M8 B := Idle_S hR8 (fun j j0 j1 hj => by rw [upI_ne (by omega), upI_ne (by omega)]; exact hz j j0 j1)
  have hZ8 : InZ M8 Z by_ := fun i h0 h1 => by rw [hC8 Z (by omega)]; exact hZ i h0 h1
  have hWD8 : Wds g M8 10 12 14 16 18 20 22 := Wds.fr hWD (fun c hc => hC8 c (by omega))
  have t9 := t69 hSJ hSZ hSP hSB hgeo hZ8 j3 hn (by omega) j4 hP8 hR8 h24 hWD8 ⟨by rw [upI_ne (by omega), upI_ne (by omega)]; exact hz 3 (by omega) (by omega), by rw [upI_ne (by omega), upI_ne (by omega)]; exact hz 4 (by omega) (by omega), by rw [upI_ne (by omega), upI_ne (by omega)]; exact hz 5 (by omega) (by omega)⟩
  rw [hdL_s] at t9
  refine ok_cn (pc' := 9) (d0 := 6) i67_6 rfl (cl_v o67 m3_33 na69 rfl rfl (bt rfl) (bt rfl) rfl (by rw [ShParser_k0 hSJ, o69])) ln69 (pd69 (aR J)) (by omega) t9 rfl (fun M1 p2 => ?_)
  have z3 : 0 ≤ (lrB (hdL by_ n zro z0 0)) ∧ (lrB (hdL by_ n zro z0 0)) ≤ 1 := lrB_rg
  refine ok_zne (pc1 := 14) (pc2 := 12) i67_9 (by omega) rfl rfl (fun h3 => ?_) (fun h3 => ?_)
  · refine ok_iconst (pc' := 15) i67_14 rfl <| ok_istoren (pc' := 16) (ls' := [aR J, aI n, aI 0]) i67_15 (bt rfl) rfl rfl <| ?_
    cases hx : hdL by_ n zro z0 0 with
    | inl e => exfalso; simp [hx, lrB] at *
    | inr y =>
      rw [hx] at p2
      obtain ⟨i1, i2, i3, i4, i5, i6⟩ := hdL_ok (by omega) hz hx
      refine ok_while (σ := Nat × Int × Int × (Int → Int) × (Int → Int)) (fun x ls M9 => (n - x.2.2.1 < x.1) ∧ (0 ≤ x.2.1 ∧ x.2.1 ≤ x.2.2.1) ∧ x.2.2.1 ≤ n ∧ M9 J 4 = x.2.2.1 ∧ M9 J 3 = n ∧ RepP M9 P x.2.2.2.1 ∧ RepS M9 B x.2.2.2.2 ∧ Val 0 x.2.2.2.1 x.2.2.2.2 ∧ KZ x.2.2.2.2 ∧ (∀ c, (c < J ∨ B + 24 ≤ c) → M9 c = M c) ∧ txtN by_ n x.1 x.2.2.1 x.2.2.2.1 x.2.2.2.2 = txtL by_ n z0 ∧ ls = [aR J, aI n, aI x.2.1]) (fun x => x.1) ?_ ((n - y.1).toNat + 1, 0, y.1, y.2.1, y.2.2) _ _ ⟨by dsimp only; omega, by dsimp only; omega, by dsimp only; omega, p2.1.1, (p2.2.1 3 (by decide) (by decide) (by decide) (by decide) (by decide)).trans j3, p2.1.2.1, p2.1.2.2, i2, i3, fun c hc => (p2.2.2 c hc).trans (hC8 c hc), by unfold txtL; rw [hx], rfl⟩
      rintro ⟨k, li, ap, qp, sp⟩ ls M9 ⟨hk, hli, hap, h94, h93, hP9, hR9, hV9, hK9, hC9, hR, rfl⟩ ih
      dsimp only at *
      cases k with
      | zero => omega
      | succ k =>
        have hQ9 := V_q hV9
        have hZ9 : InZ M9 Z by_ := fun i h0 h1 => by rw [hC9 Z (by omega)]; exact hZ i h0 h1
        have hWD9 : Wds g M9 10 12 14 16 18 20 22 := Wds.fr hWD (fun c hc => hC9 c (by omega))
        refine ok_iloadn (pc' := 17) i67_16 rfl rfl <| ok_sipush (v := 700) (pc' := 20) i67_17 rfl rfl <| ?_
        refine ok_cgt (pc1 := 66) (pc2 := 23) i67_20 (by omega) rfl rfl (fun h9 => by exfalso; omega) (fun h1 => ?_)
        refine ok_aloadn (pc' := 24) i67_23 rfl rfl <| ?_
        refine ok_cn0 (pc' := 27) (d0 := 2) i67_24 rfl (cl_v o67 m3_37 na71 rfl rfl (bt rfl) (bt rfl) rfl (by rw [ShParser_k0 hSJ, o71])) ln71 (pd71 (aR J)) (by omega) (t71 (a := ap) hSJ hSZ (by omega) hZ9 h93 hn (by omega) h94) rfl (fun M2 p3 => ?_)
        have z61 : (ap ≤ (stS by_ n ap) ∧ (stS by_ n ap) ≤ n ∧ (stS by_ n ap) ≤ (enS by_ n ap) ∧ (enS by_ n ap) ≤ n) ∧ 0 ≤ (tyS by_ n ap) ∧ (tyS by_ n ap) ≤ 4 := (by have h9 := en_rg (by_ := by_) (n := n) (a := ap) (by omega); exact ⟨⟨h9.1, h9.2.1, h9.2.2.1, h9.2.2.2.1⟩, h9.2.2.2.2.2⟩)
        have hZM2 : InZ M2 Z by_ := fun i h0 h1 => by rw [p3.2.2.2.2.2 Z (by omega)]; exact hZ9 i h0 h1
        have hPM2 : RepP M2 P qp := RepP.fr hP9 (fun a h1 h2 => p3.2.2.2.2.2 a (by omega))
        have hSM2 : RepS M2 B sp := RepS.fr hR9 (fun a h1 h2 => p3.2.2.2.2.2 a (by omega))
        refine ok_aloadn (pc' := 28) i67_27 rfl rfl <| ok_getfi (v := (tyS by_ n ap)) (pc' := 31) i67_28 o67 gi3_40 (ShParser_k0 hSJ) p3.2.2.1 rfl <| ok_iconst (pc' := 32) i67_31 rfl <| ?_
        refine ok_cne (pc1 := 37) (pc2 := 35) i67_32 (by omega) rfl rfl (fun h4 => ?_) (fun h4 => ?_)
        · refine ok_aloadn (pc' := 38) i67_37 rfl rfl <| ok_getfi (v := (tyS by_ n ap)) (pc' := 41) i67_38 o67 gi3_40 (ShParser_k0 hSJ) p3.2.2.1 rfl <| ok_iconst (pc' := 42) i67_41 rfl <| ?_
          refine ok_ceq (pc1 := 51) (pc2 := 45) i67_42 (by omega) rfl rfl (fun h5 => ?_) (fun h5 => ?_)
          · refine ok_aloadn (pc' := 52) i67_51 rfl rfl <| ?_
            have hWD1 : Wds g M2 10 12 14 16 18 20 22 := Wds.fr hWD9 (fun c hc => p3.2.2.2.2.2 c (by omega))
            refine ok_cn (pc' := 55) (d0 := 5) i67_52 rfl (cl_v o67 m3_48 na80 rfl rfl (bt rfl) (bt rfl) rfl (by rw [ShParser_k0 hSJ, o80])) ln80 (pd80 (aR J)) (by omega) (t80 (a := enS by_ n ap) hSJ hSZ hSP hSB hgeo hZM2 ((p3.2.2.2.2.1 3 (by decide) (by decide) (by decide) (by decide)).trans h93) hn (by omega) p3.1 hPM2 hSM2 hV9 hQ9 (by omega) hWD1) rfl (fun M6 p7 => ?_)
            have z62 : 0 ≤ (lrB (lineL by_ n qp sp (enS by_ n ap))) ∧ (lrB (lineL by_ n qp sp (enS by_ n ap))) ≤ 1 := lrB_rg
            refine ok_zne (pc1 := 60) (pc2 := 58) i67_55 (by omega) rfl rfl (fun h8 => ?_) (fun h8 => ?_)
            · refine ok_iinc (pc' := 63) (v := (li + 1)) (ls' := [aR J, aI n, aI (li + 1)]) i67_60 rfl rfl rfl rfl <| ok_goto (pc' := 16) i67_63 rfl <| ?_
              cases hx : lineL by_ n qp sp (enS by_ n ap) with
              | inl e => exfalso; simp [hx, lrB] at *
              | inr x =>
                rw [hx] at p7
                obtain ⟨i1, i2, i3, i4, i5, i6⟩ := lineL_ok hV9 (by omega) hx
                have r9 := (en_rg (by_ := by_) (n := n) (a := ap) (by omega)).2.2.2.2.1 (by omega)
                exact ih (k, li + 1, x.1, x.2.1, x.2.2) _ _ (by dsimp only; omega) ⟨by dsimp only; omega, by dsimp only; omega, by dsimp only; omega, p7.1.1, (p7.2.1 3 (by decide) (by decide) (by decide) (by decide) (by decide)).trans ((p3.2.2.2.2.1 3 (by decide) (by decide) (by decide) (by decide)).trans h93), p7.1.2.1, p7.1.2.2, i2, KZ_keep hK9 i3, fun c hc => (p7.2.2 c hc).trans ((p3.2.2.2.2.2 c (by omega)).trans (hC9 c hc)), by rw [← hR, txtN, if_neg (by omega), if_neg (by omega), hx], rfl⟩
            · refine ok_iconst (pc' := 59) i67_58 rfl <| ok_iretz i67_59 rt67 (by decide) <| ?_
              cases hx : lineL by_ n qp sp (enS by_ n ap) with
              | inr x => exfalso; simp [hx, lrB] at *
              | inl e =>
                rw [hx] at p7
                have e2 : txtL by_ n z0 = .inl e := by rw [← hR, txtN, if_neg (by omega), if_neg (by omega), hx]
                exact ⟨by rw [e2]; rfl, rfl, by rw [e2]; exact ⟨p7.1.1, p7.1.2.1⟩, Idle_S (RepS.fr hSM2 (fun a h1 h2 => p7.1.2.2 a h1 h2)) hK9, fun c hc => (p7.2.2 c hc).trans ((p3.2.2.2.2.2 c (by omega)).trans (hC9 c hc))⟩
          · refine ok_aloadn (pc' := 46) i67_45 rfl rfl <| ok_iconst (pc' := 47) i67_46 rfl <| ok_cc i67_47 rfl (cl_v o67 m3_44 na78 rfl rfl (bt rfl) (bt rfl) rfl (by rw [ShParser_k0 hSJ, o78])) ln78 (pd78 (aR J) (aI 1)) <| ok_aloadn (pc' := 1) i78_0 rfl rfl <| ok_iloadn (pc' := 2) i78_1 rfl rfl <| ok_putfj (kk := 8) (pc' := 5) i78_2 o78 pi78_147 (ShParser_k0 hSJ) rfl rfl <| ok_iconst (pc' := 6) i78_5 rfl <| ok_iretz i78_6 rt78 (by decide) <| ?_
            refine kt_v (pc' := 50) rfl <| ok_iretz i67_50 rt67 (by decide) <| ?_
            have e : txtL by_ n z0 = .inl (1, stS by_ n ap) := by rw [← hR, txtN, if_neg (by omega), if_pos (by omega)]
            exact ⟨by rw [e]; rfl, rfl, by rw [e]; exact ⟨rd_eq, rd_ni (by decide) (p3.2.1)⟩, Idle_S (RepS.fr hSM2 (fun a h1 h2 => by rw [up2_na (by omega)])) hK9, fun c hc => by rw [up2_na (by omega)]; exact (p3.2.2.2.2.2 c (by omega)).trans (hC9 c (by omega))⟩
        · refine ok_iconst (pc' := 36) i67_35 rfl <| ok_iretz i67_36 rt67 (by decide) <| ?_
          have e : txtL by_ n z0 = .inr (enS by_ n ap, qp, sp) := by rw [← hR, txtN, if_pos (by omega)]
          exact ⟨by rw [e]; rfl, rfl, by rw [e]; exact ⟨hPM2, hSM2⟩, Idle_S hSM2 hK9, fun c hc => (p3.2.2.2.2.2 c (by omega)).trans (hC9 c (by omega))⟩
  · refine ok_iconst (pc' := 13) i67_12 rfl <| ok_iretz i67_13 rt67 (by decide) <| ?_
    cases hx : hdL by_ n zro z0 0 with
    | inr x => exfalso; simp [hx, lrB] at *
    | inl e =>
      rw [hx] at p2
      have e : txtL by_ n z0 = .inl e := by unfold txtL; rw [hx]
      exact ⟨by rw [e]; rfl, rfl, by rw [e]; exact ⟨p2.1.1, p2.1.2.1⟩, Idle_fr hI8 p2.1.2.2, fun c hc => (p2.2.2 c hc).trans (hC8 c hc)⟩

