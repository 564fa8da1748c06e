/-! THE TEXT: the class (by program, wip/gen) -/
/-! THE TEXT: the class -/
def tw (k : Nat) (i : Int) : Int := (([[121, 97, 114, 100], [107, 101, 114, 102], [107, 101, 101, 112], [107, 105, 110, 100], [114, 111, 100, 115], [111, 114, 100, 101, 114], [112, 97, 116, 116, 101, 114, 110]] : List (List Int)).getD k []).getD i.toNat 0
def Wds (g : AG) (M : AM) (c0 c1 c2 c3 c4 c5 c6 : Nat) : Prop := Wd g M c0 4 (tw 0) ∧ Wd g M c1 4 (tw 1) ∧ Wd g M c2 4 (tw 2) ∧ Wd g M c3 4 (tw 3) ∧ Wd g M c4 4 (tw 4) ∧ Wd g M c5 5 (tw 5) ∧ Wd g M c6 7 (tw 6)
def wdA (by_ : Int → Int) (n : Int) (k m : Nat) (a : Int) : Int := wdB by_ (tw k) m (stS by_ n a) (enS by_ n a) (tyS by_ n a)
theorem wdA_rg {by_ : Int → Int} {n : Int} {k m : Nat} {a : Int} : 0 ≤ wdA by_ n k m a ∧ wdA by_ n k m a ≤ 1 := wdB_rg
theorem lrB_rg {r : LR} : 0 ≤ lrB r ∧ lrB r ≤ 1 := by cases r <;> simp [lrB]
theorem LPo.fr {M M1 M9 : AM} {J P B : Nat} {r : LR} (h : LPo M1 M9 J P B r) (e : ∀ a, B ≤ a → a < B + 24 → M1 a = M a) : LPo M M9 J P B r := by
  cases r with
  | inl x => exact ⟨h.1, h.2.1, fun a h1 h2 => (h.2.2 a h1 h2).trans (e a h1 h2)⟩
  | inr x => exact h
def lineL (by_ : Int → Int) (n : Int) (q s : Int → Int) (a : Int) : LR := if wdA by_ n 3 4 a ≠ 0 then kindL by_ n q s (stS by_ n a) (enS by_ n a) else if wdA by_ n 4 4 a ≠ 0 then rodsL by_ n q s (stS by_ n a) (enS by_ n a) else if wdA by_ n 5 5 a ≠ 0 then ordL by_ n q s (stS by_ n a) (enS by_ n a) else if wdA by_ n 6 7 a ≠ 0 then ptnL by_ n q s (stS by_ n a) (enS by_ n a) else .inl (1, stS by_ n a)
def Keep (s s' : Int → Int) : Prop := ∀ j : Int, (j < 14 ∧ j ≠ 3 ∧ j ≠ 4) ∨ 542 ≤ j → s' j = s j
def ZR (s : Int → Int) : Prop := ∀ j : Int, 174 ≤ j → j < 414 → s j = 0
def LOK (b n a : Int) (s : Int → Int) (x : Int × (Int → Int) × (Int → Int)) : Prop := (a ≤ x.1 ∧ x.1 ≤ n) ∧ Val b x.2.1 x.2.2 ∧ Keep s x.2.2 ∧ (ZR s → ZR x.2.2) ∧ (s 3 ≤ 24 → x.2.2 3 ≤ 24) ∧ (s 4 ≤ 12 → x.2.2 4 ≤ 12)
theorem VQ_entK {q : Int → Int} {l p : Int} (h : ValQ q) (h0 : q 0 < 4) (hl : 1 ≤ l ∧ l ≤ 200) (hp : 1 ≤ p ∧ p ≤ 99) : ValQ (entK q l p) ∧ entK q l p 0 = q 0 + 1 := by
  obtain ⟨c0, c1, hk, hpp⟩ := h
  have e0 : entK q l p 0 = q 0 + 1 := by unfold entK; exact upI_eq
  have eh : ∀ k : Int, k = 1 ∨ 10 ≤ k → entK q l p k = q k := fun k hk => by unfold entK; rw [upI_ne (by omega), upI_ne (by omega), upI_ne (by omega)]
  refine ⟨⟨by rw [e0]; omega, by rw [eh _ (by omega)]; exact c1, ?_, ?_⟩, e0⟩
  · intro i g0 g1
    rw [e0] at g1
    have := hk i g0
    unfold entK
    simp only [upI]
    grind (splits := 40)
  · intro i g0 g1
    rw [eh _ (by omega)] at g1
    rw [eh _ (by omega)]
    refine ⟨(hpp i g0 g1).1, fun j g2 g3 => ?_⟩
    rw [eh _ (by omega)]
    exact (hpp i g0 g1).2 j g2 g3
theorem V_q0 {b : Int} {q q' s : Int → Int} (h : Val b q s) (hq : ValQ q') (h0 : q 0 ≤ q' 0) : Val b q' s := by
  obtain ⟨a1, a2, a3, a4, a5, a6, a7, hr, ho, hs, hQ⟩ := h
  refine ⟨a1, a2, a3, a4, a5, a6, a7, fun i g0 g1 => ?_, ho, hs, hq⟩
  have := hr i g0 g1
  unfold RodV at this ⊢
  omega
theorem addT_k {s : Int → Int} {k l : Int} (h3 : 0 ≤ s 3 ∧ s 3 < 80) : (∀ j : Int, (j < 14 ∧ j ≠ 3) ∨ 414 ≤ j → addT s k l j = s j) ∧ (ZR s → ZR (addT s k l)) := by
  constructor
  · intro j hj
    unfold addT
    simp only [upI]
    grind (splits := 40)
  · intro h j g0 g1
    have := h j g0 g1
    unfold addT
    simp only [upI]
    grind (splits := 40)
theorem ordS_k {s : Int → Int} {x n v d : Int} (h4 : 0 ≤ s 4 ∧ s 4 < 16) : ∀ j : Int, (j < 414 ∧ j ≠ 4) ∨ 542 ≤ j → ordS s x n v d j = s j := by
  intro j hj
  unfold ordS
  simp only [upI]
  grind (splits := 40)
theorem ordS_4 {s : Int → Int} {x n v d : Int} : ordS s x n v d 4 = s 4 + 1 := upI_eq
theorem kindL_ok {by_ q s : Int → Int} {n w a b : Int} {x : Int × (Int → Int) × (Int → Int)} (hV : Val b q s) (hQ : ValQ q) (ha : 0 ≤ a ∧ a ≤ n) (h : kindL by_ n q s w a = .inr x) : LOK b n a s x := by
  unfold kindL at h
  have r1 := en_rg (by_ := by_) (n := n) (a := a) (by omega)
  have r2 := en_rg (by_ := by_) (n := n) (a := enS by_ n a) (by omega)
  split at h; · cases h
  split at h; · cases h
  split at h; · cases h
  split at h; · cases h
  cases h
  have v1 := (nu_ok (by_ := by_) (n := n) (lo := 1) (hi := 200) (a := a) (by assumption)).2.2
  have v2 := (nu_ok (by_ := by_) (n := n) (lo := 1) (hi := 99) (a := enS by_ n a) (by assumption)).2.2
  have hK := VQ_entK hQ (by omega) v1 v2
  exact ⟨by dsimp only; omega, V_q0 hV hK.1 (by dsimp only; omega), fun j _ => rfl, id, id, id⟩
theorem ordL_ok {by_ q s : Int → Int} {n w a b : Int} {x : Int × (Int → Int) × (Int → Int)} (hV : Val b q s) (hQ : ValQ q) (ha : 0 ≤ a ∧ a ≤ n) (h : ordL by_ n q s w a = .inr x) : LOK b n a s x := by
  unfold ordL at h
  have y4 := V_4 hV
  have r1 := en_rg (by_ := by_) (n := n) (a := a) (by omega)
  have r2 := en_rg (by_ := by_) (n := n) (a := enS by_ n a) (by omega)
  have r3 := en_rg (by_ := by_) (n := n) (a := enS by_ n (enS by_ n a)) (by omega)
  have r4 := en_rg (by_ := by_) (n := n) (a := enS by_ n (enS by_ n (enS by_ n a))) (by omega)
  split at h; · cases h
  split at h; · cases h
  split at h; · cases h
  split at h; · cases h
  split at h; · cases h
  cases h
  have v1 := (nu_ok (by_ := by_) (n := n) (lo := 1) (hi := 200) (a := a) (by assumption)).2.2
  have v2 := (nu_ok (by_ := by_) (n := n) (lo := 1) (hi := 9) (a := enS by_ n a) (by assumption)).2.2
  have v3 := (nu_ok (by_ := by_) (n := n) (lo := 0) (hi := 99) (a := enS by_ n (enS by_ n a)) (by assumption)).2.2
  have v4 := (nu_ok (by_ := by_) (n := n) (lo := 0) (hi := 99) (a := enS by_ n (enS by_ n (enS by_ n a))) (by assumption)).2.2
  refine ⟨by dsimp only; omega, V_ord hV (by omega) v1 v2 v3 (by omega), fun j hj => ordS_k (by omega) j (by omega), fun hz j g0 g1 => (ordS_k (by omega) j (by omega)).trans (hz j g0 g1), fun h3 => ?_, fun h4 => ?_⟩
  · dsimp only
    rw [ordS_k (by omega) 3 (by omega)]; exact h3
  · dsimp only
    rw [ordS_4]; omega
theorem rods_it {b : Int} {q s : Int → Int} {k l : Int} (hV : Val b q s) (hk : 0 ≤ k ∧ k < q 0) (hl : 1 ≤ l ∧ l ≤ 200) : ∀ m : Nat, s 3 + m ≤ 24 → Val b q (itv (fun _ t => addT t k l) s 0 m) ∧ (itv (fun _ t => addT t k l) s 0 m) 3 = s 3 + m ∧ Keep s (itv (fun _ t => addT t k l) s 0 m) ∧ (ZR s → ZR (itv (fun _ t => addT t k l) s 0 m)) ∧ (itv (fun _ t => addT t k l) s 0 m) 4 = s 4 := by
  intro m
  induction m with
  | zero => exact fun _ => ⟨hV, by show s 3 = _; omega, fun j _ => rfl, id, rfl⟩
  | succ m ih =>
    intro hm
    obtain ⟨i1, i2, i3, i4, i5⟩ := ih (by omega)
    rw [itv]
    generalize itv (fun _ t => addT t k l) s 0 m = t at *
    have y3 := V_3 i1
    have hk := addT_k (s := t) (k := k) (l := l) (by omega)
    exact ⟨V_add i1 (by omega) (by omega) hl, by rw [addT_3]; omega, fun j hj => (hk.1 j (by omega)).trans (i3 j hj), fun hz => hk.2 (i4 hz), (hk.1 4 (by omega)).trans i5⟩
theorem rodsL_ok {by_ q s : Int → Int} {n w a b : Int} {x : Int × (Int → Int) × (Int → Int)} (hV : Val b q s) (hQ : ValQ q) (ha : 0 ≤ a ∧ a ≤ n) (h : rodsL by_ n q s w a = .inr x) : LOK b n a s x := by
  unfold rodsL at h
  have y3 := V_3 hV
  have r1 := en_rg (by_ := by_) (n := n) (a := a) (by omega)
  have r2 := en_rg (by_ := by_) (n := n) (a := enS by_ n a) (by omega)
  split at h; · cases h
  split at h; · cases h
  split at h; · cases h
  cases h
  have v1 := (nu_ok (by_ := by_) (n := n) (lo := 0) (hi := q 0 - 1) (a := a) (by assumption)).2.2
  have v2 := (nu_ok (by_ := by_) (n := n) (lo := 1) (hi := 9) (a := enS by_ n a) (by assumption)).2.2
  have v3 := Q_2 hQ (i := vaS by_ n a) (by omega) (by omega)
  obtain ⟨i1, i2, i3, i4, i5⟩ := rods_it hV (k := vaS by_ n a) (l := q (2 + vaS by_ n a)) (by omega) v3 (vaS by_ n (enS by_ n a)).toNat (by omega)
  exact ⟨by dsimp only; omega, i1, i3, i4, fun h3 => by dsimp only; omega, fun h4 => by dsimp only; omega⟩
theorem ptnN_ok {by_ s : Int → Int} {n b : Int} : ∀ (k : Nat) (q : Int → Int) (a : Int) (x : Int × (Int → Int) × (Int → Int)), Val b q s → ValQ q → 1 ≤ q 1 → q (10 + (q 1 - 1)) = 6 - k → 0 ≤ a ∧ a ≤ n → ptnN by_ n s k a q = .inr x → LOK b n a s x := by
  intro k
  induction k with
  | zero =>
    intro q a x hV hQ h1 hz ha h
    rw [ptnN] at h
    have r1 := en_rg (by_ := by_) (n := n) (a := a) (by omega)
    split at h
    · cases h
      exact ⟨by dsimp only; omega, hV, fun j _ => rfl, id, id, id⟩
    · split at h <;> cases h
  | succ k ih =>
    intro q a x hV hQ h1 hz ha h
    rw [ptnN] at h
    have r1 := en_rg (by_ := by_) (n := n) (a := a) (by omega)
    split at h
    · cases h
      exact ⟨by dsimp only; omega, hV, fun j _ => rfl, id, id, id⟩
    · split at h
      · cases h
      · have v1 := (nu_ok (by_ := by_) (n := n) (lo := 1) (hi := 200) (a := stS by_ n a) (by assumption)).2.2
        have r2 := en_rg (by_ := by_) (n := n) (a := stS by_ n a) (by omega)
        have hp0 := (Q_10 hQ (i := q 1 - 1) (by omega) (by omega)).1
        have hx := extP_1 (q := q) (l := vaS by_ n (stS by_ n a)) h1 (by omega)
        have hQ' := VQ_ext (l := vaS by_ n (stS by_ n a)) hQ h1 (by omega) v1
        obtain ⟨i1, i2⟩ := ih _ _ x (V_q0 hV hQ' (by omega)) hQ' (by omega) (by rw [hx.1, hx.2.2]; omega) (by omega) h
        exact ⟨by omega, i2⟩
theorem ptnL_ok {by_ q s : Int → Int} {n w a b : Int} {x : Int × (Int → Int) × (Int → Int)} (hV : Val b q s) (hQ : ValQ q) (ha : 0 ≤ a ∧ a ≤ n) (h : ptnL by_ n q s w a = .inr x) : LOK b n a s x := by
  unfold ptnL at h
  have y1 := Q_1 hQ
  have r1 := en_rg (by_ := by_) (n := n) (a := a) (by omega)
  split at h; · cases h
  split at h; · cases h
  have v1 := (nu_ok (by_ := by_) (n := n) (lo := 1) (hi := 200) (a := a) (by assumption)).2.2
  have hf := VQ_first (l := vaS by_ n a) hQ (by omega) v1
  have e0 : q 0 ≤ extP (entP q) (vaS by_ n a) 0 := by
    unfold extP
    rw [upI_ne (by rw [(entP_f (q := q) (by omega)).1]; omega), upI_ne (by rw [(entP_f (q := q) (by omega)).1, show 10 + (q 1 + 1 - 1) = 10 + q 1 by omega, (entP_f (q := q) (by omega)).2.1]; omega), (entP_f (q := q) (by omega)).2.2 0 (by omega) (by omega)]
    omega
  obtain ⟨i1, i2⟩ := ptnN_ok 5 _ _ x (V_q0 hV hf.1 e0) hf.1 (by omega) (by rw [hf.2.1]; exact hf.2.2) (by omega) h
  exact ⟨by omega, i2⟩
theorem lineL_ok {by_ q s : Int → Int} {n a b : Int} {x : Int × (Int → Int) × (Int → Int)} (hV : Val b q s) (ha : 0 ≤ a ∧ a ≤ n) (h : lineL by_ n q s a = .inr x) : LOK b n a s x := by
  have hQ := V_q hV
  have r1 := en_rg (by_ := by_) (n := n) (a := a) (by omega)
  unfold lineL at h
  have key : ∀ {y : Int × (Int → Int) × (Int → Int)}, LOK b n (enS by_ n a) s y → LOK b n a s y := fun ⟨i1, i2⟩ => ⟨by omega, i2⟩
  split at h; · exact key (kindL_ok hV hQ (by omega) h)
  split at h; · exact key (rodsL_ok hV hQ (by omega) h)
  split at h; · exact key (ordL_ok hV hQ (by omega) h)
  split at h; · exact key (ptnL_ok hV hQ (by omega) h)
  cases h
theorem o80 : am_oc 80 = 3 := by decide +kernel
theorem sr3_99 : (am_sr 3 99).map (fun q => q.2.1) = some 16 := by decide +kernel
theorem sr3_107 : (am_sr 3 107).map (fun q => q.2.1) = some 18 := by decide +kernel
theorem sr3_111 : (am_sr 3 111).map (fun q => q.2.1) = some 20 := by decide +kernel
theorem sr3_116 : (am_sr 3 116).map (fun q => q.2.1) = some 22 := by decide +kernel
theorem rt80 : am_rt 80 = some .boolean := by decide +kernel
theorem m3_118 : am_mlk 3 118 0 84 = true := by decide +kernel
theorem na84 : am_na 84 = 0 := by decide +kernel
theorem nl84 : am_nL 84 = 2 := by decide +kernel
theorem pd84 : ∀ a0 : AV, am_pad 84 [a0] = [a0, aU] := by intros; unfold am_pad; rw [nl84]; rfl
theorem ln84 : 1 ≤ am_nL 84 := by rw [nl84]; decide
theorem m3_113 : am_mlk 3 113 0 83 = true := by decide +kernel
theorem na83 : am_na 83 = 0 := by decide +kernel
theorem nl83 : am_nL 83 = 4 := by decide +kernel
theorem pd83 : ∀ a0 : AV, am_pad 83 [a0] = [a0, aU, aU, aU] := by intros; unfold am_pad; rw [nl83]; rfl
theorem ln83 : 1 ≤ am_nL 83 := by rw [nl83]; decide
theorem m3_108 : am_mlk 3 108 0 82 = true := by decide +kernel
theorem na82 : am_na 82 = 0 := by decide +kernel
theorem nl82 : am_nL 82 = 3 := by decide +kernel
theorem pd82 : ∀ a0 : AV, am_pad 82 [a0] = [a0, aU, aU] := by intros; unfold am_pad; rw [nl82]; rfl
theorem ln82 : 1 ≤ am_nL 82 := by rw [nl82]; decide
theorem m3_104 : am_mlk 3 104 0 81 = true := by decide +kernel
theorem na81 : am_na 81 = 0 := by decide +kernel
theorem nl81 : am_nL 81 = 2 := by decide +kernel
theorem pd81 : ∀ a0 : AV, am_pad 81 [a0] = [a0, aU] := by intros; unfold am_pad; rw [nl81]; rfl
theorem ln81 : 1 ≤ am_nL 81 := by rw [nl81]; decide
theorem o69 : am_oc 69 = 3 := by decide +kernel
theorem sr3_78 : (am_sr 3 78).map (fun q => q.2.1) = some 10 := by decide +kernel
theorem m3_80 : am_mlk 3 80 0 70 = true := by decide +kernel
theorem na70 : am_na 70 = 1 := by decide +kernel
theorem nl70 : am_nL 70 = 2 := by decide +kernel
theorem pd70 : ∀ a0 a1 : AV, am_pad 70 [a0, a1] = [a0, a1] := by intros; unfold am_pad; rw [nl70]; rfl
theorem ln70 : 2 ≤ am_nL 70 := by rw [nl70]; decide
theorem rt69 : am_rt 69 = some .boolean := by decide +kernel
theorem sr3_84 : (am_sr 3 84).map (fun q => q.2.1) = some 12 := by decide +kernel
theorem gr3_90 : am_gfr 3 90 5 1 = true := by decide +kernel
theorem sr3_97 : (am_sr 3 97).map (fun q => q.2.1) = some 14 := by decide +kernel
theorem t80 {g : AG} {M : AM} {J Z P B : Nat} {by_ q s : Int → Int} {n a b : Int} (hSJ : ShParser g J Z P B) (hSZ : ShBytes g Z) (hSP : ShPlan g P) (hSB : ShState g B) (hgeo : Z < J ∧ J < P ∧ P + 11 ≤ B) (hZ : InZ M Z by_) (j3 : M J 3 = n) (hn : 0 ≤ n ∧ n ≤ 700) (ha : 0 ≤ a ∧ a ≤ n) (j4 : M J 4 = a) (hRP : RepP M P q) (hRB : RepS M B s) (hV : Val b q s) (hQ : ValQ q) (h24 : 24 ≤ Z) (hWD : Wds g M 10 12 14 16 18 20 22) :
    Ok 5 80 0 [aR J] [] g M (Rt (some (aI (lrB (lineL by_ n q s a)))) g (fun M9 => LPo M M9 J P B (lineL by_ n q s a) ∧ (∀ y : Int, y ≠ 4 → y ≠ 5 → y ≠ 6 → y ≠ 7 → y ≠ 8 → M9 J y = M J y) ∧ ∀ c, (c < J ∨ B + 24 ≤ c) → M9 c = M c)) := by
  have ys3 : 0 ≤ s 3 ∧ s 3 ≤ 80 := V_3 hV
  have ys4 : 0 ≤ s 4 ∧ s 4 ≤ 16 := V_4 hV
  have yq0 : 0 ≤ q 0 ∧ q 0 ≤ 4 := Q_0 hQ
  have yq1 : 0 ≤ q 1 ∧ q 1 ≤ 6 := Q_1 hQ
  refine ok_aloadn (pc' := 1) i80_0 rfl rfl <| ?_
  refine ok_cn0 (pc' := 4) (d0 := 2) i80_1 rfl (cl_v o80 m3_37 na71 rfl rfl (bt rfl) (bt rfl) rfl (by rw [ShParser_k0 hSJ, o71])) ln71 (pd71 (aR J)) (by omega) (t71 (a := a) hSJ hSZ (by omega) hZ j3 hn (by omega) j4) rfl (fun M1 p2 => ?_)
  have z1 : (a ≤ (stS by_ n a) ∧ (stS by_ n a) ≤ n ∧ (stS by_ n a) ≤ (enS by_ n a) ∧ (enS by_ n a) ≤ n) ∧ 0 ≤ (tyS by_ n a) ∧ (tyS by_ n a) ≤ 4 := (by have h9 := en_rg (by_ := by_) (n := n) (a := a) (by omega); exact ⟨⟨h9.1, h9.2.1, h9.2.2.1, h9.2.2.2.1⟩, h9.2.2.2.2.2⟩)
  have hZM1 : InZ M1 Z by_ := fun i h0 h1 => by rw [p2.2.2.2.2.2 Z (by omega)]; exact hZ i h0 h1
  have hPM1 : RepP M1 P q := RepP.fr hRP (fun a h1 h2 => p2.2.2.2.2.2 a (by omega))
  have hSM1 : RepS M1 B s := RepS.fr hRB (fun a h1 h2 => p2.2.2.2.2.2 a (by omega))
  have hWM1_10 : Wd g M1 10 4 (tw 0) := hWD.1.fr (p2.2.2.2.2.2 _ (by omega))
  have hWM1_12 : Wd g M1 12 4 (tw 1) := hWD.2.1.fr (p2.2.2.2.2.2 _ (by omega))
  have hWM1_14 : Wd g M1 14 4 (tw 2) := hWD.2.2.1.fr (p2.2.2.2.2.2 _ (by omega))
  have hWM1_16 : Wd g M1 16 4 (tw 3) := hWD.2.2.2.1.fr (p2.2.2.2.2.2 _ (by omega))
  have hWM1_18 : Wd g M1 18 4 (tw 4) := hWD.2.2.2.2.1.fr (p2.2.2.2.2.2 _ (by omega))
  have hWM1_20 : Wd g M1 20 5 (tw 5) := hWD.2.2.2.2.2.1.fr (p2.2.2.2.2.2 _ (by omega))
  have hWM1_22 : Wd g M1 22 7 (tw 6) := hWD.2.2.2.2.2.2.fr (p2.2.2.2.2.2 _ (by omega))
  refine ok_aloadn (pc' := 5) i80_4 rfl rfl <| ok_ldcs (pc' := 7) i80_5 o80 sr3_99 (by decide) rfl <| ok_cp (pc' := 10) (d0 := 4) i80_7 rfl (cl_v o80 m3_101 na77 rfl rfl (bt rfl) (bt rfl) rfl (by rw [ShParser_k0 hSJ, o77])) ln77 (pd77 (aR J) (aR 16)) (by omega) (show Ok _ _ _ _ _ _ _ (Rt (some (aI (wdA by_ n 3 4 a))) _ _) from t77 hSJ hSZ hZM1 hWM1_16 p2.1 p2.2.1 p2.2.2.1 (by omega) (by omega) (by omega)) rfl <| ?_
  have z2 : 0 ≤ (wdA by_ n 3 4 a) ∧ (wdA by_ n 3 4 a) ≤ 1 := wdA_rg
  refine ok_zeq (pc1 := 18) (pc2 := 13) i80_10 (by omega) rfl rfl (fun h3 => ?_) (fun h3 => ?_)
  · refine ok_aloadn (pc' := 19) i80_18 rfl rfl <| ok_ldcs (pc' := 21) i80_19 o80 sr3_107 (by decide) rfl <| ok_cp (pc' := 24) (d0 := 4) i80_21 rfl (cl_v o80 m3_101 na77 rfl rfl (bt rfl) (bt rfl) rfl (by rw [ShParser_k0 hSJ, o77])) ln77 (pd77 (aR J) (aR 18)) (by omega) (show Ok _ _ _ _ _ _ _ (Rt (some (aI (wdA by_ n 4 4 a))) _ _) from t77 hSJ hSZ hZM1 hWM1_18 p2.1 p2.2.1 p2.2.2.1 (by omega) (by omega) (by omega)) rfl <| ?_
    have z3 : 0 ≤ (wdA by_ n 4 4 a) ∧ (wdA by_ n 4 4 a) ≤ 1 := wdA_rg
    refine ok_zeq (pc1 := 32) (pc2 := 27) i80_24 (by omega) rfl rfl (fun h4 => ?_) (fun h4 => ?_)
    · refine ok_aloadn (pc' := 33) i80_32 rfl rfl <| ok_ldcs (pc' := 35) i80_33 o80 sr3_111 (by decide) rfl <| ok_cp (pc' := 38) (d0 := 4) i80_35 rfl (cl_v o80 m3_101 na77 rfl rfl (bt rfl) (bt rfl) rfl (by rw [ShParser_k0 hSJ, o77])) ln77 (pd77 (aR J) (aR 20)) (by omega) (show Ok _ _ _ _ _ _ _ (Rt (some (aI (wdA by_ n 5 5 a))) _ _) from t77 hSJ hSZ hZM1 hWM1_20 p2.1 p2.2.1 p2.2.2.1 (by omega) (by omega) (by omega)) rfl <| ?_
      have z4 : 0 ≤ (wdA by_ n 5 5 a) ∧ (wdA by_ n 5 5 a) ≤ 1 := wdA_rg
      refine ok_zeq (pc1 := 46) (pc2 := 41) i80_38 (by omega) rfl rfl (fun h5 => ?_) (fun h5 => ?_)
      · refine ok_aloadn (pc' := 47) i80_46 rfl rfl <| ok_ldcs (pc' := 49) i80_47 o80 sr3_116 (by decide) rfl <| ok_cp (pc' := 52) (d0 := 4) i80_49 rfl (cl_v o80 m3_101 na77 rfl rfl (bt rfl) (bt rfl) rfl (by rw [ShParser_k0 hSJ, o77])) ln77 (pd77 (aR J) (aR 22)) (by omega) (show Ok _ _ _ _ _ _ _ (Rt (some (aI (wdA by_ n 6 7 a))) _ _) from t77 hSJ hSZ hZM1 hWM1_22 p2.1 p2.2.1 p2.2.2.1 (by omega) (by omega) (by omega)) rfl <| ?_
        have z5 : 0 ≤ (wdA by_ n 6 7 a) ∧ (wdA by_ n 6 7 a) ≤ 1 := wdA_rg
        refine ok_zeq (pc1 := 60) (pc2 := 55) i80_52 (by omega) rfl rfl (fun h6 => ?_) (fun h6 => ?_)
        · refine ok_aloadn (pc' := 61) i80_60 rfl rfl <| ok_iconst (pc' := 62) i80_61 rfl <| ok_cc i80_62 rfl (cl_v o80 m3_44 na78 rfl rfl (bt rfl) (bt rfl) rfl (by rw [ShParser_k0 hSJ, o78])) ln78 (pd78 (aR J) (aI 1)) <| ok_aloadn (pc' := 1) i78_0 rfl rfl <| ok_iloadn (pc' := 2) i78_1 rfl rfl <| ok_putfj (kk := 8) (pc' := 5) i78_2 o78 pi78_147 (ShParser_k0 hSJ) rfl rfl <| ok_iconst (pc' := 6) i78_5 rfl <| ok_iretz i78_6 rt78 (by decide) <| ?_
          refine kt_v (pc' := 65) rfl <| ok_iretz i80_65 rt80 (by decide) <| ?_
          have e : lineL by_ n q s a = .inl (1, (stS by_ n a)) := by unfold lineL; rw [if_neg (by omega), if_neg (by omega), if_neg (by omega), if_neg (by omega)]
          exact ⟨by rw [e]; rfl, rfl, by rw [e]; exact ⟨rd_eq, rd_ni (by decide) (p2.2.1), fun a h1 h2 => by rw [up2_na (by omega)]; exact p2.2.2.2.2.2 a (by omega)⟩, fun y c4 c5 c6 c7 c8 => by rw [up2_rd, if_neg (by omega)]; exact p2.2.2.2.2.1 y c4 c5 c6 c7, fun c hc => by rw [up2_na (by omega)]; exact p2.2.2.2.2.2 c (by omega)⟩
        · refine ok_aloadn (pc' := 56) i80_55 rfl rfl <| ?_
          refine ok_cn (pc' := 59) (d0 := 4) i80_56 rfl (cl_v o80 m3_118 na84 rfl rfl (bt rfl) (bt rfl) rfl (by rw [ShParser_k0 hSJ, o84])) ln84 (pd84 (aR J)) (by omega) (t84 (a := enS by_ n a) hSJ hSZ hSP hSB (by omega) hZM1 ((p2.2.2.2.2.1 3 (by decide) (by decide) (by decide) (by decide)).trans j3) hn (by omega) p2.1 hPM1 hSM1 hV hQ p2.2.1) rfl (fun M7 p8 => ?_)
          have z6 : 0 ≤ (lrB (ptnL by_ n q s (stS by_ n a) (enS by_ n a))) ∧ (lrB (ptnL by_ n q s (stS by_ n a) (enS by_ n a))) ≤ 1 := lrB_rg
          refine ok_iretz i80_59 rt80 (by omega) <| ?_
          have e : lineL by_ n q s a = ptnL by_ n q s (stS by_ n a) (enS by_ n a) := by unfold lineL; rw [if_neg (by omega), if_neg (by omega), if_neg (by omega), if_pos (by omega)]
          exact ⟨by rw [e], rfl, by rw [e]; exact LPo.fr p8.1 (fun a h1 h2 => p2.2.2.2.2.2 a (by omega)), fun y c4 c5 c6 c7 c8 => (p8.2.1 y c4 c5 c6 c7 c8).trans (p2.2.2.2.2.1 y c4 c5 c6 c7), fun c hc => (p8.2.2 c hc).trans (p2.2.2.2.2.2 c (by omega))⟩
      · refine ok_aloadn (pc' := 42) i80_41 rfl rfl <| ?_
        refine ok_cn (pc' := 45) (d0 := 4) i80_42 rfl (cl_v o80 m3_113 na83 rfl rfl (bt rfl) (bt rfl) rfl (by rw [ShParser_k0 hSJ, o83])) ln83 (pd83 (aR J)) (by omega) (t83 (a := enS by_ n a) hSJ hSZ hSP hSB (by omega) hZM1 ((p2.2.2.2.2.1 3 (by decide) (by decide) (by decide) (by decide)).trans j3) hn (by omega) p2.1 hPM1 hSM1 hV hQ p2.2.1) rfl (fun M9 p10 => ?_)
        have z7 : 0 ≤ (lrB (ordL by_ n q s (stS by_ n a) (enS by_ n a))) ∧ (lrB (ordL by_ n q s (stS by_ n a) (enS by_ n a))) ≤ 1 := lrB_rg
        refine ok_iretz i80_45 rt80 (by omega) <| ?_
        have e : lineL by_ n q s a = ordL by_ n q s (stS by_ n a) (enS by_ n a) := by unfold lineL; rw [if_neg (by omega), if_neg (by omega), if_pos (by omega)]
        exact ⟨by rw [e], rfl, by rw [e]; exact LPo.fr p10.1 (fun a h1 h2 => p2.2.2.2.2.2 a (by omega)), fun y c4 c5 c6 c7 c8 => (p10.2.1 y c4 c5 c6 c7 c8).trans (p2.2.2.2.2.1 y c4 c5 c6 c7), fun c hc => (p10.2.2 c hc).trans (p2.2.2.2.2.2 c (by omega))⟩
    · refine ok_aloadn (pc' := 28) i80_27 rfl rfl <| ?_
      refine ok_cn (pc' := 31) (d0 := 4) i80_28 rfl (cl_v o80 m3_108 na82 rfl rfl (bt rfl) (bt rfl) rfl (by rw [ShParser_k0 hSJ, o82])) ln82 (pd82 (aR J)) (by omega) (t82 (a := enS by_ n a) hSJ hSZ hSP hSB (by omega) hZM1 ((p2.2.2.2.2.1 3 (by decide) (by decide) (by decide) (by decide)).trans j3) hn (by omega) p2.1 hPM1 hSM1 hV hQ p2.2.1) rfl (fun M11 p12 => ?_)
      have z8 : 0 ≤ (lrB (rodsL by_ n q s (stS by_ n a) (enS by_ n a))) ∧ (lrB (rodsL by_ n q s (stS by_ n a) (enS by_ n a))) ≤ 1 := lrB_rg
      refine ok_iretz i80_31 rt80 (by omega) <| ?_
      have e : lineL by_ n q s a = rodsL by_ n q s (stS by_ n a) (enS by_ n a) := by unfold lineL; rw [if_neg (by omega), if_pos (by omega)]
      exact ⟨by rw [e], rfl, by rw [e]; exact LPo.fr p12.1 (fun a h1 h2 => p2.2.2.2.2.2 a (by omega)), fun y c4 c5 c6 c7 c8 => (p12.2.1 y c4 c5 c6 c7 c8).trans (p2.2.2.2.2.1 y c4 c5 c6 c7), fun c hc => (p12.2.2 c hc).trans (p2.2.2.2.2.2 c (by omega))⟩
  · refine ok_aloadn (pc' := 14) i80_13 rfl rfl <| ?_
    refine ok_cn (pc' := 17) (d0 := 4) i80_14 rfl (cl_v o80 m3_104 na81 rfl rfl (bt rfl) (bt rfl) rfl (by rw [ShParser_k0 hSJ, o81])) ln81 (pd81 (aR J)) (by omega) (t81 (a := enS by_ n a) hSJ hSZ hSP hSB (by omega) hZM1 ((p2.2.2.2.2.1 3 (by decide) (by decide) (by decide) (by decide)).trans j3) hn (by omega) p2.1 hPM1 hSM1 hV hQ p2.2.1) rfl (fun M13 p14 => ?_)
    have z9 : 0 ≤ (lrB (kindL by_ n q s (stS by_ n a) (enS by_ n a))) ∧ (lrB (kindL by_ n q s (stS by_ n a) (enS by_ n a))) ≤ 1 := lrB_rg
    refine ok_iretz i80_17 rt80 (by omega) <| ?_
    have e : lineL by_ n q s a = kindL by_ n q s (stS by_ n a) (enS by_ n a) := by unfold lineL; rw [if_pos (by omega)]
    exact ⟨by rw [e], rfl, by rw [e]; exact LPo.fr p14.1 (fun a h1 h2 => p2.2.2.2.2.2 a (by omega)), fun y c4 c5 c6 c7 c8 => (p14.2.1 y c4 c5 c6 c7 c8).trans (p2.2.2.2.2.1 y c4 c5 c6 c7), fun c hc => (p14.2.2 c hc).trans (p2.2.2.2.2.2 c (by omega))⟩
def hdL (by_ : Int → Int) (n : Int) (q s : Int → Int) (a : Int) : LR := if wdA by_ n 0 4 a = 0 then .inl (1, stS by_ n a) else if wdA by_ n 1 4 (enS by_ n a) = 0 then .inl (1, stS by_ n (enS by_ n a)) else if (nuB by_ n 0 9 (enS by_ n (enS by_ n a))) = 0 then .inl (nuC by_ n 0 9 (enS by_ n (enS by_ n a)), stS by_ n (enS by_ n (enS by_ n a))) else if wdA by_ n 2 4 (enS by_ n (enS by_ n (enS by_ n a))) = 0 then .inl (1, stS by_ n (enS by_ n (enS by_ n (enS by_ n a)))) else if (nuB by_ n 1 200 (enS by_ n (enS by_ n (enS by_ n (enS by_ n a))))) = 0 then .inl (nuC by_ n 1 200 (enS by_ n (enS by_ n (enS by_ n (enS by_ n a)))), stS by_ n (enS by_ n (enS by_ n (enS by_ n (enS by_ n a))))) else .inr (enS by_ n (enS by_ n (enS by_ n (enS by_ n (enS by_ n a)))), q, upI (upI s 1 (vaS by_ n (enS by_ n (enS by_ n a)))) 2 (vaS by_ n (enS by_ n (enS by_ n (enS by_ n (enS by_ n a))))))
def LPh (M M9 : AM) (J P B : Nat) : LR → Prop
  | .inl e => M9 J 8 = e.1 ∧ M9 J 5 = e.2 ∧ ∀ a, B ≤ a → a < B + 24 → a ≠ B + 1 → M9 a = M a
  | .inr x => M9 J 4 = x.1 ∧ RepP M9 P x.2.1 ∧ RepS M9 B x.2.2
theorem hdL_s {by_ q s : Int → Int} {n a k p : Int} : hdL by_ n q (upI (upI s 1 k) 2 p) a = hdL by_ n q s a := by
  have e : ∀ v w : Int, upI (upI (upI (upI s 1 k) 2 p) 1 v) 2 w = upI (upI s 1 v) 2 w := by
    intro v w; funext j; simp only [upI]; grind
  unfold hdL
  rw [e]
theorem RepS_set {M : AM} {B : Nat} {s : Int → Int} (h : RepS M B s) (l : s 3 = 0 ∧ s 4 = 0 ∧ s 5 = 0) {i v : Int} (h0 : 0 ≤ i) (h1 : i < 2) : RepS (up2 M (B + 1) i v) B (upI s (1 + i) v) := (RL_w1 (RL0 h) (v := v) (by unfold Lim; omega) h0 h1).1
theorem t69 {g : AG} {M : AM} {J Z P B : Nat} {by_ q s : Int → Int} {n a : Int} (hSJ : ShParser g J Z P B) (hSZ : ShBytes g Z) (hSP : ShPlan g P) (hSB : ShState g B) (hgeo : Z < J ∧ J < P ∧ P + 11 ≤ B) (hZ : InZ M Z by_) (j3 : M J 3 = n) (hn : 0 ≤ n ∧ n ≤ 700) (ha : 0 ≤ a ∧ a ≤ n) (j4 : M J 4 = a) (hRP : RepP M P q) (hRB : RepS M B s) (h24 : 24 ≤ Z) (hWD : Wds g M 10 12 14 16 18 20 22) (hs0 : s 3 = 0 ∧ s 4 = 0 ∧ s 5 = 0) :
    Ok 6 69 0 [aR J] [] g M (Rt (some (aI (lrB (hdL by_ n q s a)))) g (fun M9 => LPh M M9 J P B (hdL by_ n q s a) ∧ (∀ y : Int, y ≠ 4 → y ≠ 5 → y ≠ 6 → y ≠ 7 → y ≠ 8 → M9 J y = M J y) ∧ ∀ c, (c < J ∨ B + 24 ≤ c) → M9 c = M c)) := by
  refine ok_aloadn (pc' := 1) i69_0 rfl rfl <| ok_ldcs (pc' := 3) i69_1 o69 sr3_78 (by decide) rfl <| ?_
  refine ok_cn (pc' := 6) (d0 := 5) i69_3 rfl (cl_v o69 m3_80 na70 rfl rfl (bt rfl) (bt rfl) rfl (by rw [ShParser_k0 hSJ, o70])) ln70 (pd70 (aR J) (aR 10)) (by omega) (show Ok _ _ _ _ _ _ _ (Rt (some (aI (wdA by_ n 0 4 a))) _ _) from t70 (a := a) hSJ hSZ (by omega) hZ j3 hn (by omega) j4 hWD.1 (by omega)) rfl (fun M1 p2 => ?_)
  have z1 : (a ≤ (stS by_ n a) ∧ (stS by_ n a) ≤ n ∧ (stS by_ n a) ≤ (enS by_ n a) ∧ (enS by_ n a) ≤ n) ∧ 0 ≤ (tyS by_ n a) ∧ (tyS by_ n a) ≤ 4 := (by have h9 := en_rg (by_ := by_) (n := n) (a := a) (by omega); exact ⟨⟨h9.1, h9.2.1, h9.2.2.1, h9.2.2.2.1⟩, h9.2.2.2.2.2⟩)
  have z2 : 0 ≤ (wdA by_ n 0 4 a) ∧ (wdA by_ n 0 4 a) ≤ 1 := wdA_rg
  have hZM1 : InZ M1 Z by_ := fun i h0 h1 => by rw [p2.2.2.2.2.2 Z (by omega)]; exact hZ i h0 h1
  have hPM1 : RepP M1 P q := RepP.fr hRP (fun a h1 h2 => p2.2.2.2.2.2 a (by omega))
  have hSM1 : RepS M1 B s := RepS.fr hRB (fun a h1 h2 => p2.2.2.2.2.2 a (by omega))
  have hWM1_10 : Wd g M1 10 4 (tw 0) := hWD.1.fr (p2.2.2.2.2.2 _ (by omega))
  have hWM1_12 : Wd g M1 12 4 (tw 1) := hWD.2.1.fr (p2.2.2.2.2.2 _ (by omega))
  have hWM1_14 : Wd g M1 14 4 (tw 2) := hWD.2.2.1.fr (p2.2.2.2.2.2 _ (by omega))
  have hWM1_16 : Wd g M1 16 4 (tw 3) := hWD.2.2.2.1.fr (p2.2.2.2.2.2 _ (by omega))
  have hWM1_18 : Wd g M1 18 4 (tw 4) := hWD.2.2.2.2.1.fr (p2.2.2.2.2.2 _ (by omega))
  have hWM1_20 : Wd g M1 20 5 (tw 5) := hWD.2.2.2.2.2.1.fr (p2.2.2.2.2.2 _ (by omega))
  have hWM1_22 : Wd g M1 22 7 (tw 6) := hWD.2.2.2.2.2.2.fr (p2.2.2.2.2.2 _ (by omega))
  refine ok_zeq (pc1 := 28) (pc2 := 9) i69_6 (by omega) rfl rfl (fun h3 => ?_) (fun h3 => ?_)
  · refine ok_iconst (pc' := 29) i69_28 rfl <| ok_iretz i69_29 rt69 (by decide) <| ?_
    have e : hdL by_ n q s a = .inl (1, (stS by_ n a)) := by unfold hdL; rw [if_pos (by omega)]
    exact ⟨by rw [e]; rfl, rfl, by rw [e]; exact ⟨p2.2.2.2.1 (show wdA by_ n 0 4 a = 0 by omega), p2.2.1, fun a h1 h2 h3 => p2.2.2.2.2.2 a (by omega)⟩, fun y c4 c5 c6 c7 c8 => p2.2.2.2.2.1 y c4 c5 c6 c7 c8, fun c hc => p2.2.2.2.2.2 c (by omega)⟩
  · refine ok_aloadn (pc' := 10) i69_9 rfl rfl <| ok_ldcs (pc' := 12) i69_10 o69 sr3_84 (by decide) rfl <| ?_
    refine ok_cn (pc' := 15) (d0 := 5) i69_12 rfl (cl_v o69 m3_80 na70 rfl rfl (bt rfl) (bt rfl) rfl (by rw [ShParser_k0 hSJ, o70])) ln70 (pd70 (aR J) (aR 12)) (by omega) (show Ok _ _ _ _ _ _ _ (Rt (some (aI (wdA by_ n 1 4 (enS by_ n a)))) _ _) from t70 (a := (enS by_ n a)) hSJ hSZ (by omega) hZM1 ((p2.2.2.2.2.1 3 (by decide) (by decide) (by decide) (by decide) (by decide)).trans j3) hn (by omega) p2.1 hWM1_12 (by omega)) rfl (fun M4 p5 => ?_)
    have z3 : ((enS by_ n a) ≤ (stS by_ n (enS by_ n a)) ∧ (stS by_ n (enS by_ n a)) ≤ n ∧ (stS by_ n (enS by_ n a)) ≤ (enS by_ n (enS by_ n a)) ∧ (enS by_ n (enS by_ n a)) ≤ n) ∧ 0 ≤ (tyS by_ n (enS by_ n a)) ∧ (tyS by_ n (enS by_ n a)) ≤ 4 := (by have h9 := en_rg (by_ := by_) (n := n) (a := (enS by_ n a)) (by omega); exact ⟨⟨h9.1, h9.2.1, h9.2.2.1, h9.2.2.2.1⟩, h9.2.2.2.2.2⟩)
    have z4 : 0 ≤ (wdA by_ n 1 4 (enS by_ n a)) ∧ (wdA by_ n 1 4 (enS by_ n a)) ≤ 1 := wdA_rg
    have hZM4 : InZ M4 Z by_ := fun i h0 h1 => by rw [p5.2.2.2.2.2 Z (by omega)]; exact hZM1 i h0 h1
    have hPM4 : RepP M4 P q := RepP.fr hPM1 (fun a h1 h2 => p5.2.2.2.2.2 a (by omega))
    have hSM4 : RepS M4 B s := RepS.fr hSM1 (fun a h1 h2 => p5.2.2.2.2.2 a (by omega))
    have hWM4_10 : Wd g M4 10 4 (tw 0) := hWM1_10.fr (p5.2.2.2.2.2 _ (by omega))
    have hWM4_12 : Wd g M4 12 4 (tw 1) := hWM1_12.fr (p5.2.2.2.2.2 _ (by omega))
    have hWM4_14 : Wd g M4 14 4 (tw 2) := hWM1_14.fr (p5.2.2.2.2.2 _ (by omega))
    have hWM4_16 : Wd g M4 16 4 (tw 3) := hWM1_16.fr (p5.2.2.2.2.2 _ (by omega))
    have hWM4_18 : Wd g M4 18 4 (tw 4) := hWM1_18.fr (p5.2.2.2.2.2 _ (by omega))
    have hWM4_20 : Wd g M4 20 5 (tw 5) := hWM1_20.fr (p5.2.2.2.2.2 _ (by omega))
    have hWM4_22 : Wd g M4 22 7 (tw 6) := hWM1_22.fr (p5.2.2.2.2.2 _ (by omega))
    refine ok_zeq (pc1 := 28) (pc2 := 18) i69_15 (by omega) rfl rfl (fun h6 => ?_) (fun h6 => ?_)
    · refine ok_iconst (pc' := 29) i69_28 rfl <| ok_iretz i69_29 rt69 (by decide) <| ?_
      have e : hdL by_ n q s a = .inl (1, (stS by_ n (enS by_ n a))) := by unfold hdL; rw [if_neg (by omega), if_pos (by omega)]
      exact ⟨by rw [e]; rfl, rfl, by rw [e]; exact ⟨p5.2.2.2.1 (show wdA by_ n 1 4 (enS by_ n a) = 0 by omega), p5.2.1, fun a h1 h2 h3 => (p5.2.2.2.2.2 a (by omega)).trans (p2.2.2.2.2.2 a (by omega))⟩, fun y c4 c5 c6 c7 c8 => (p5.2.2.2.2.1 y c4 c5 c6 c7 c8).trans (p2.2.2.2.2.1 y c4 c5 c6 c7 c8), fun c hc => (p5.2.2.2.2.2 c (by omega)).trans (p2.2.2.2.2.2 c (by omega))⟩
    · refine ok_aloadn (pc' := 19) i69_18 rfl rfl <| ok_iconst (pc' := 20) i69_19 rfl <| ok_bipush (v := 9) (pc' := 22) i69_20 rfl rfl <| ?_
      refine ok_cn (pc' := 25) (d0 := 3) i69_22 rfl (cl_v o69 m3_86 na79 rfl rfl (bt rfl) (bt rfl) rfl (by rw [ShParser_k0 hSJ, o79])) ln79 (pd79 (aR J) (aI 0) (aI 9)) (by omega) (t79 (a := (enS by_ n (enS by_ n a))) (x1 := 0) (x2 := 9) hSJ hSZ (by omega) hZM4 ((p5.2.2.2.2.1 3 (by decide) (by decide) (by decide) (by decide) (by decide)).trans ((p2.2.2.2.2.1 3 (by decide) (by decide) (by decide) (by decide) (by decide)).trans j3)) hn (by omega) p5.1 (by omega) (by omega)) rfl (fun M7 p8 => ?_)
      have z5 : (enS by_ n (enS by_ n a)) ≤ (stS by_ n (enS by_ n (enS by_ n a))) ∧ (stS by_ n (enS by_ n (enS by_ n a))) ≤ n ∧ (stS by_ n (enS by_ n (enS by_ n a))) ≤ (enS by_ n (enS by_ n (enS by_ n a))) ∧ (enS by_ n (enS by_ n (enS by_ n a))) ≤ n := (by have h9 := en_rg (by_ := by_) (n := n) (a := (enS by_ n (enS by_ n a))) (by omega); exact ⟨h9.1, h9.2.1, h9.2.2.1, h9.2.2.2.1⟩)
      have z6 : 0 ≤ (nuB by_ n 0 9 (enS by_ n (enS by_ n a))) ∧ (nuB by_ n 0 9 (enS by_ n (enS by_ n a))) ≤ 1 := nuB_rg
      have hZM7 : InZ M7 Z by_ := fun i h0 h1 => by rw [p8.2.2.2.2.2.2 Z (by omega)]; exact hZM4 i h0 h1
      have hPM7 : RepP M7 P q := RepP.fr hPM4 (fun a h1 h2 => p8.2.2.2.2.2.2 a (by omega))
      have hSM7 : RepS M7 B s := RepS.fr hSM4 (fun a h1 h2 => p8.2.2.2.2.2.2 a (by omega))
      have hWM7_10 : Wd g M7 10 4 (tw 0) := hWM4_10.fr (p8.2.2.2.2.2.2 _ (by omega))
      have hWM7_12 : Wd g M7 12 4 (tw 1) := hWM4_12.fr (p8.2.2.2.2.2.2 _ (by omega))
      have hWM7_14 : Wd g M7 14 4 (tw 2) := hWM4_14.fr (p8.2.2.2.2.2.2 _ (by omega))
      have hWM7_16 : Wd g M7 16 4 (tw 3) := hWM4_16.fr (p8.2.2.2.2.2.2 _ (by omega))
      have hWM7_18 : Wd g M7 18 4 (tw 4) := hWM4_18.fr (p8.2.2.2.2.2.2 _ (by omega))
      have hWM7_20 : Wd g M7 20 5 (tw 5) := hWM4_20.fr (p8.2.2.2.2.2.2 _ (by omega))
      have hWM7_22 : Wd g M7 22 7 (tw 6) := hWM4_22.fr (p8.2.2.2.2.2.2 _ (by omega))
      refine ok_zne (pc1 := 30) (pc2 := 28) i69_25 (by omega) rfl rfl (fun h9 => ?_) (fun h9 => ?_)
      · refine ok_aloadn (pc' := 31) i69_30 rfl rfl <| ok_getfr (r := B) (pc' := 34) i69_31 o69 gr3_21 (ShParser_k0 hSJ) (ShParser_r2 hSJ) rfl <| ok_getfr (r := (B + 1)) (pc' := 37) i69_34 o69 gr3_90 (ShState_k0 hSB) (ShState_r1 hSB) rfl <| ok_iconst (pc' := 38) i69_37 rfl <| ok_aloadn (pc' := 39) i69_38 rfl rfl <| ?_
        have z7 : 0 ≤ (vaS by_ n (enS by_ n (enS by_ n a))) ∧ (vaS by_ n (enS by_ n (enS by_ n a))) ≤ 9 := (nu_ok (by omega)).2.2
        refine ok_getfi (v := (vaS by_ n (enS by_ n (enS by_ n a)))) (pc' := 42) i69_39 o69 gi3_94 (ShParser_k0 hSJ) (p8.2.2.2.1 (nu_ok (by omega)).1) rfl <| ok_iastore (pc' := 43) i69_42 (ShState_k1 hSB) (ShState_l1 hSB) (by decide) rfl <| ok_aloadn (pc' := 44) i69_43 rfl rfl <| ok_ldcs (pc' := 46) i69_44 o69 sr3_97 (by decide) rfl <| ?_
        obtain ⟨M8, hM8⟩ : ∃ u9 : AM, u9 = (up2 M7 (B + 1) 0 (vaS by_ n (enS by_ n (enS by_ n a)))) := ⟨_, rfl⟩
        show Ok _ _ _ _ _ _ (up2 M7 (B + 1) 0 (vaS by_ n (enS by_ n (enS by_ n a)))) _
        rw [← hM8]
        obtain ⟨s8, hs8⟩ : ∃ u9 : Int → Int, u9 = upI s 1 (vaS by_ n (enS by_ n (enS by_ n a))) := ⟨_, rfl⟩
        have hR8 : RepS M8 B s8 := by rw [hM8, hs8]; exact RepS_set hSM7 hs0 (i := 0) (by decide) (by decide)
        have hs80 : s8 3 = 0 ∧ s8 4 = 0 ∧ s8 5 = 0 := by rw [hs8, upI_ne (by decide), upI_ne (by decide), upI_ne (by decide)]; exact hs0
        have hC8 : ∀ c, c ≠ B + 1 → M8 c = M7 c := fun c hc => by rw [hM8, up2_na hc]
        have hZ8 : InZ M8 Z by_ := fun i h0 h1 => by rw [hC8 Z (by omega)]; exact hZM7 i h0 h1
        have hP8 : RepP M8 P q := RepP.fr hPM7 (fun a h1 h2 => hC8 a (by omega))
        have hW8_10 : Wd g M8 10 4 (tw 0) := hWM7_10.fr (hC8 _ (by omega))
        have hW8_12 : Wd g M8 12 4 (tw 1) := hWM7_12.fr (hC8 _ (by omega))
        have hW8_14 : Wd g M8 14 4 (tw 2) := hWM7_14.fr (hC8 _ (by omega))
        have hW8_16 : Wd g M8 16 4 (tw 3) := hWM7_16.fr (hC8 _ (by omega))
        have hW8_18 : Wd g M8 18 4 (tw 4) := hWM7_18.fr (hC8 _ (by omega))
        have hW8_20 : Wd g M8 20 5 (tw 5) := hWM7_20.fr (hC8 _ (by omega))
        have hW8_22 : Wd g M8 22 7 (tw 6) := hWM7_22.fr (hC8 _ (by omega))
        refine ok_cn (pc' := 49) (d0 := 5) i69_46 rfl (cl_v o69 m3_80 na70 rfl rfl (bt rfl) (bt rfl) rfl (by rw [ShParser_k0 hSJ, o70])) ln70 (pd70 (aR J) (aR 14)) (by omega) (show Ok _ _ _ _ _ _ _ (Rt (some (aI (wdA by_ n 2 4 (enS by_ n (enS by_ n (enS by_ n a)))))) _ _) from t70 (a := (enS by_ n (enS by_ n (enS by_ n a)))) hSJ hSZ (by omega) hZ8 (by rw [hC8 J (by omega)]; exact ((p8.2.2.2.2.2.1 3 (by decide) (by decide) (by decide) (by decide) (by decide)).trans ((p5.2.2.2.2.1 3 (by decide) (by decide) (by decide) (by decide) (by decide)).trans ((p2.2.2.2.2.1 3 (by decide) (by decide) (by decide) (by decide) (by decide)).trans j3)))) hn (by omega) (by rw [hC8 J (by omega)]; exact p8.1) hW8_14 (by omega)) rfl (fun M10 p11 => ?_)
        have z8 : ((enS by_ n (enS by_ n (enS by_ n a))) ≤ (stS by_ n (enS by_ n (enS by_ n (enS by_ n a)))) ∧ (stS by_ n (enS by_ n (enS by_ n (enS by_ n a)))) ≤ n ∧ (stS by_ n (enS by_ n (enS by_ n (enS by_ n a)))) ≤ (enS by_ n (enS by_ n (enS by_ n (enS by_ n a)))) ∧ (enS by_ n (enS by_ n (enS by_ n (enS by_ n a)))) ≤ n) ∧ 0 ≤ (tyS by_ n (enS by_ n (enS by_ n (enS by_ n a)))) ∧ (tyS by_ n (enS by_ n (enS by_ n (enS by_ n a)))) ≤ 4 := (by have h9 := en_rg (by_ := by_) (n := n) (a := (enS by_ n (enS by_ n (enS by_ n a)))) (by omega); exact ⟨⟨h9.1, h9.2.1, h9.2.2.1, h9.2.2.2.1⟩, h9.2.2.2.2.2⟩)
        have z9 : 0 ≤ (wdA by_ n 2 4 (enS by_ n (enS by_ n (enS by_ n a)))) ∧ (wdA by_ n 2 4 (enS by_ n (enS by_ n (enS by_ n a)))) ≤ 1 := wdA_rg
        have hZM10 : InZ M10 Z by_ := fun i h0 h1 => by rw [p11.2.2.2.2.2 Z (by omega)]; exact hZ8 i h0 h1
        have hPM10 : RepP M10 P q := RepP.fr hP8 (fun a h1 h2 => p11.2.2.2.2.2 a (by omega))
        have hSM10 : RepS M10 B s8 := RepS.fr hR8 (fun a h1 h2 => p11.2.2.2.2.2 a (by omega))
        have hWM10_10 : Wd g M10 10 4 (tw 0) := hW8_10.fr (p11.2.2.2.2.2 _ (by omega))
        have hWM10_12 : Wd g M10 12 4 (tw 1) := hW8_12.fr (p11.2.2.2.2.2 _ (by omega))
        have hWM10_14 : Wd g M10 14 4 (tw 2) := hW8_14.fr (p11.2.2.2.2.2 _ (by omega))
        have hWM10_16 : Wd g M10 16 4 (tw 3) := hW8_16.fr (p11.2.2.2.2.2 _ (by omega))
        have hWM10_18 : Wd g M10 18 4 (tw 4) := hW8_18.fr (p11.2.2.2.2.2 _ (by omega))
        have hWM10_20 : Wd g M10 20 5 (tw 5) := hW8_20.fr (p11.2.2.2.2.2 _ (by omega))
        have hWM10_22 : Wd g M10 22 7 (tw 6) := hW8_22.fr (p11.2.2.2.2.2 _ (by omega))
        refine ok_zeq (pc1 := 63) (pc2 := 52) i69_49 (by omega) rfl rfl (fun h12 => ?_) (fun h12 => ?_)
        · refine ok_iconst (pc' := 64) i69_63 rfl <| ok_iretz i69_64 rt69 (by decide) <| ?_
          have e : hdL by_ n q s a = .inl (1, (stS by_ n (enS by_ n (enS by_ n (enS by_ n a))))) := by unfold hdL; rw [if_neg (by omega), if_neg (by omega), if_neg (by omega), if_pos (by omega)]
          exact ⟨by rw [e]; rfl, rfl, by rw [e]; exact ⟨p11.2.2.2.1 (show wdA by_ n 2 4 (enS by_ n (enS by_ n (enS by_ n a))) = 0 by omega), p11.2.1, fun a h1 h2 h3 => (p11.2.2.2.2.2 a (by omega)).trans ((hC8 a (by omega)).trans ((p8.2.2.2.2.2.2 a (by omega)).trans ((p5.2.2.2.2.2 a (by omega)).trans (p2.2.2.2.2.2 a (by omega)))))⟩, fun y c4 c5 c6 c7 c8 => (p11.2.2.2.2.1 y c4 c5 c6 c7 c8).trans (((congrFun (hC8 J (by omega)) y)).trans ((p8.2.2.2.2.2.1 y c4 c5 c6 c7 c8).trans ((p5.2.2.2.2.1 y c4 c5 c6 c7 c8).trans (p2.2.2.2.2.1 y c4 c5 c6 c7 c8)))), fun c hc => (p11.2.2.2.2.2 c (by omega)).trans ((hC8 c (by omega)).trans ((p8.2.2.2.2.2.2 c (by omega)).trans ((p5.2.2.2.2.2 c (by omega)).trans (p2.2.2.2.2.2 c (by omega)))))⟩
        · refine ok_aloadn (pc' := 53) i69_52 rfl rfl <| ok_iconst (pc' := 54) i69_53 rfl <| ok_sipush (v := 200) (pc' := 57) i69_54 rfl rfl <| ?_
          refine ok_cn (pc' := 60) (d0 := 3) i69_57 rfl (cl_v o69 m3_86 na79 rfl rfl (bt rfl) (bt rfl) rfl (by rw [ShParser_k0 hSJ, o79])) ln79 (pd79 (aR J) (aI 1) (aI 200)) (by omega) (t79 (a := (enS by_ n (enS by_ n (enS by_ n (enS by_ n a))))) (x1 := 1) (x2 := 200) hSJ hSZ (by omega) hZM10 ((p11.2.2.2.2.1 3 (by decide) (by decide) (by decide) (by decide) (by decide)).trans (by rw [hC8 J (by omega)]; exact ((p8.2.2.2.2.2.1 3 (by decide) (by decide) (by decide) (by decide) (by decide)).trans ((p5.2.2.2.2.1 3 (by decide) (by decide) (by decide) (by decide) (by decide)).trans ((p2.2.2.2.2.1 3 (by decide) (by decide) (by decide) (by decide) (by decide)).trans j3))))) hn (by omega) p11.1 (by omega) (by omega)) rfl (fun M13 p14 => ?_)
          have z10 : (enS by_ n (enS by_ n (enS by_ n (enS by_ n a)))) ≤ (stS by_ n (enS by_ n (enS by_ n (enS by_ n (enS by_ n a))))) ∧ (stS by_ n (enS by_ n (enS by_ n (enS by_ n (enS by_ n a))))) ≤ n ∧ (stS by_ n (enS by_ n (enS by_ n (enS by_ n (enS by_ n a))))) ≤ (enS by_ n (enS by_ n (enS by_ n (enS by_ n (enS by_ n a))))) ∧ (enS by_ n (enS by_ n (enS by_ n (enS by_ n (enS by_ n a))))) ≤ n := (by have h9 := en_rg (by_ := by_) (n := n) (a := (enS by_ n (enS by_ n (enS by_ n (enS by_ n a))))) (by omega); exact ⟨h9.1, h9.2.1, h9.2.2.1, h9.2.2.2.1⟩)
          have z11 : 0 ≤ (nuB by_ n 1 200 (enS by_ n (enS by_ n (enS by_ n (enS by_ n a))))) ∧ (nuB by_ n 1 200 (enS by_ n (enS by_ n (enS by_ n (enS by_ n a))))) ≤ 1 := nuB_rg
          have hZM13 : InZ M13 Z by_ := fun i h0 h1 => by rw [p14.2.2.2.2.2.2 Z (by omega)]; exact hZM10 i h0 h1
          have hPM13 : RepP M13 P q := RepP.fr hPM10 (fun a h1 h2 => p14.2.2.2.2.2.2 a (by omega))
          have hSM13 : RepS M13 B s8 := RepS.fr hSM10 (fun a h1 h2 => p14.2.2.2.2.2.2 a (by omega))
          have hWM13_10 : Wd g M13 10 4 (tw 0) := hWM10_10.fr (p14.2.2.2.2.2.2 _ (by omega))
          have hWM13_12 : Wd g M13 12 4 (tw 1) := hWM10_12.fr (p14.2.2.2.2.2.2 _ (by omega))
          have hWM13_14 : Wd g M13 14 4 (tw 2) := hWM10_14.fr (p14.2.2.2.2.2.2 _ (by omega))
          have hWM13_16 : Wd g M13 16 4 (tw 3) := hWM10_16.fr (p14.2.2.2.2.2.2 _ (by omega))
          have hWM13_18 : Wd g M13 18 4 (tw 4) := hWM10_18.fr (p14.2.2.2.2.2.2 _ (by omega))
          have hWM13_20 : Wd g M13 20 5 (tw 5) := hWM10_20.fr (p14.2.2.2.2.2.2 _ (by omega))
          have hWM13_22 : Wd g M13 22 7 (tw 6) := hWM10_22.fr (p14.2.2.2.2.2.2 _ (by omega))
          refine ok_zne (pc1 := 65) (pc2 := 63) i69_60 (by omega) rfl rfl (fun h15 => ?_) (fun h15 => ?_)
          · refine ok_aloadn (pc' := 66) i69_65 rfl rfl <| ok_getfr (r := B) (pc' := 69) i69_66 o69 gr3_21 (ShParser_k0 hSJ) (ShParser_r2 hSJ) rfl <| ok_getfr (r := (B + 1)) (pc' := 72) i69_69 o69 gr3_90 (ShState_k0 hSB) (ShState_r1 hSB) rfl <| ok_iconst (pc' := 73) i69_72 rfl <| ok_aloadn (pc' := 74) i69_73 rfl rfl <| ?_
            have z12 : 1 ≤ (vaS by_ n (enS by_ n (enS by_ n (enS by_ n (enS by_ n a))))) ∧ (vaS by_ n (enS by_ n (enS by_ n (enS by_ n (enS by_ n a))))) ≤ 200 := (nu_ok (by omega)).2.2
            refine ok_getfi (v := (vaS by_ n (enS by_ n (enS by_ n (enS by_ n (enS by_ n a)))))) (pc' := 77) i69_74 o69 gi3_94 (ShParser_k0 hSJ) (p14.2.2.2.1 (nu_ok (by omega)).1) rfl <| ok_iastore (pc' := 78) i69_77 (ShState_k1 hSB) (ShState_l1 hSB) (by decide) rfl <| ok_iconst (pc' := 79) i69_78 rfl <| ok_iretz i69_79 rt69 (by decide) <| ?_
            have e : hdL by_ n q s a = .inr ((enS by_ n (enS by_ n (enS by_ n (enS by_ n (enS by_ n a))))), q, upI s8 2 (vaS by_ n (enS by_ n (enS by_ n (enS by_ n (enS by_ n a)))))) := by unfold hdL; rw [if_neg (by omega), if_neg (by omega), if_neg (by omega), if_neg (by omega), if_neg (by omega), hs8]
            exact ⟨by rw [e]; rfl, rfl, by rw [e]; exact ⟨by rw [up2_na (by omega)]; exact p14.1, RepP.fr hPM13 (fun a h1 h2 => by rw [up2_na (by omega)]), RepS_set hSM13 hs80 (i := 1) (by decide) (by decide)⟩, fun y c4 c5 c6 c7 c8 => by rw [up2_na (by omega)]; exact (p14.2.2.2.2.2.1 y c4 c5 c6 c7 c8).trans ((p11.2.2.2.2.1 y c4 c5 c6 c7 c8).trans (((congrFun (hC8 J (by omega)) y)).trans ((p8.2.2.2.2.2.1 y c4 c5 c6 c7 c8).trans ((p5.2.2.2.2.1 y c4 c5 c6 c7 c8).trans (p2.2.2.2.2.1 y c4 c5 c6 c7 c8))))), fun c hc => by rw [up2_na (by omega)]; exact (p14.2.2.2.2.2.2 c (by omega)).trans ((p11.2.2.2.2.2 c (by omega)).trans ((hC8 c (by omega)).trans ((p8.2.2.2.2.2.2 c (by omega)).trans ((p5.2.2.2.2.2 c (by omega)).trans (p2.2.2.2.2.2 c (by omega))))))⟩
          · refine ok_iconst (pc' := 64) i69_63 rfl <| ok_iretz i69_64 rt69 (by decide) <| ?_
            have e : hdL by_ n q s a = .inl ((nuC by_ n 1 200 (enS by_ n (enS by_ n (enS by_ n (enS by_ n a))))), (stS by_ n (enS by_ n (enS by_ n (enS by_ n (enS by_ n a)))))) := by unfold hdL; rw [if_neg (by omega), if_neg (by omega), if_neg (by omega), if_neg (by omega), if_pos (by omega)]
            exact ⟨by rw [e]; rfl, rfl, by rw [e]; exact ⟨p14.2.2.2.2.1 (nu_bad (by omega)), p14.2.1, fun a h1 h2 h3 => (p14.2.2.2.2.2.2 a (by omega)).trans ((p11.2.2.2.2.2 a (by omega)).trans ((hC8 a (by omega)).trans ((p8.2.2.2.2.2.2 a (by omega)).trans ((p5.2.2.2.2.2 a (by omega)).trans (p2.2.2.2.2.2 a (by omega))))))⟩, fun y c4 c5 c6 c7 c8 => (p14.2.2.2.2.2.1 y c4 c5 c6 c7 c8).trans ((p11.2.2.2.2.1 y c4 c5 c6 c7 c8).trans (((congrFun (hC8 J (by omega)) y)).trans ((p8.2.2.2.2.2.1 y c4 c5 c6 c7 c8).trans ((p5.2.2.2.2.1 y c4 c5 c6 c7 c8).trans (p2.2.2.2.2.1 y c4 c5 c6 c7 c8))))), fun c hc => (p14.2.2.2.2.2.2 c (by omega)).trans ((p11.2.2.2.2.2 c (by omega)).trans ((hC8 c (by omega)).trans ((p8.2.2.2.2.2.2 c (by omega)).trans ((p5.2.2.2.2.2 c (by omega)).trans (p2.2.2.2.2.2 c (by omega))))))⟩
      · refine ok_iconst (pc' := 29) i69_28 rfl <| ok_iretz i69_29 rt69 (by decide) <| ?_
        have e : hdL by_ n q s a = .inl ((nuC by_ n 0 9 (enS by_ n (enS by_ n a))), (stS by_ n (enS by_ n (enS by_ n a)))) := by unfold hdL; rw [if_neg (by omega), if_neg (by omega), if_pos (by omega)]
        exact ⟨by rw [e]; rfl, rfl, by rw [e]; exact ⟨p8.2.2.2.2.1 (nu_bad (by omega)), p8.2.1, fun a h1 h2 h3 => (p8.2.2.2.2.2.2 a (by omega)).trans ((p5.2.2.2.2.2 a (by omega)).trans (p2.2.2.2.2.2 a (by omega)))⟩, fun y c4 c5 c6 c7 c8 => (p8.2.2.2.2.2.1 y c4 c5 c6 c7 c8).trans ((p5.2.2.2.2.1 y c4 c5 c6 c7 c8).trans (p2.2.2.2.2.1 y c4 c5 c6 c7 c8)), fun c hc => (p8.2.2.2.2.2.2 c (by omega)).trans ((p5.2.2.2.2.2 c (by omega)).trans (p2.2.2.2.2.2 c (by omega)))⟩

