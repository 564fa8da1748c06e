/-! PATTERN LINES: the reference (by program, wip/gen) -/
/-! PATTERN LINES: the reference -/
theorem runN_stop {p : Int → Bool} {by_ : Int → Int} {n : Int} : ∀ (k : Nat) (a : Int), n ≤ a + k → n ≤ runN p by_ n k a ∨ p (by_ (runN p by_ n k a)) = false := by
  intro k
  induction k with
  | zero => exact fun a h => Or.inl (by show n ≤ a; omega)
  | succ k ih =>
    intro a h
    rw [runN]
    split
    · exact ih (a + 1) (by omega)
    · next hc =>
      by_cases h1 : a < n
      · right
        cases hp : p (by_ a) with
        | false => rfl
        | true => exact absurd ⟨h1, hp⟩ hc
      · exact Or.inl (by omega)
theorem run_run {p : Int → Bool} {by_ : Int → Int} {n a : Int} : run p by_ n (run p by_ n a) = run p by_ n a := run_end (runN_stop (n - a).toNat a (by omega))
theorem stS_S {by_ : Int → Int} {n a : Int} : stS by_ n (stS by_ n a) = stS by_ n a := run_run
theorem tokS {by_ : Int → Int} {n a : Int} : enS by_ n (stS by_ n a) = enS by_ n a ∧ tyS by_ n (stS by_ n a) = tyS by_ n a ∧ vaS by_ n (stS by_ n a) = vaS by_ n a := by
  unfold enS tyS vaS
  rw [stS_S]
  exact ⟨rfl, rfl, rfl⟩
theorem nuS {by_ : Int → Int} {n lo hi a : Int} : nuC by_ n lo hi (stS by_ n a) = nuC by_ n lo hi a ∧ nuB by_ n lo hi (stS by_ n a) = nuB by_ n lo hi a := by
  unfold nuB nuC
  rw [tokS.2.1, tokS.2.2]
  exact ⟨rfl, rfl⟩
theorem dg_1 {by_ : Int → Int} {n a : Int} (h : tyS by_ n a = 1) : dgB by_ n a = 1 := by
  unfold dgB
  unfold tyS at h
  split at h
  · omega
  · split at h
    · split at h <;> omega
    · split at h
      · next h2 => rw [if_pos ⟨by omega, h2⟩]
      · split at h <;> omega
theorem dg_0 {by_ : Int → Int} {n a : Int} (h : tyS by_ n a ≠ 1) : dgB by_ n a = 0 ∨ (dgB by_ n a = 1 ∧ tyS by_ n a = 4) := by
  by_cases hd : dgB by_ n a = 0
  · exact Or.inl hd
  · have h1 := dgB_rg (by_ := by_) (n := n) (a := a)
    refine Or.inr ⟨by omega, ?_⟩
    unfold dgB at hd
    split at hd
    · next hc =>
      unfold tyS at h ⊢
      rw [if_neg (by omega)] at h ⊢
      have hl : ¬ pL (by_ (stS by_ n a)) = true := by
        have h5 : 48 ≤ by_ (stS by_ n a) ∧ by_ (stS by_ n a) ≤ 57 := of_decide_eq_true hc.2
        rw [pL_f (by omega)]; decide
      rw [if_neg hl, if_pos hc.2] at h ⊢
      split at h
      · omega
      · next h6 => rw [if_neg h6]
    · omega
def LPq (M9 : AM) (O : Nat) (by_ : Int → Int) (n : Int) (r : LR) : Prop := LPr M9 O by_ n r ∨ ∃ p : Int, r = .inl (1, p) ∧ M9 O 22 = 0 ∧ M9 O 19 = p ∧ M9 O 20 = 4
def Agr (q qp : Int → Int) (cnt : Int) : Prop := (∀ k : Int, k ≠ 1 → k ≠ 10 + q 1 → (k < 16 + 6 * q 1 ∨ 22 + 6 * q 1 ≤ k) → qp k = q k) ∧ qp 1 = q 1 + 1 ∧ qp (10 + q 1) = cnt
def PIn (M9 : AM) (O : Nat) (q qp : Int → Int) (cnt : Int) : Prop := ∀ i : Int, 0 ≤ i → i < cnt → M9 (O + 13) (6 * q 1 + i) = qp (16 + (6 * q 1 + i))
theorem Agr_ext {q qp : Int → Int} {cnt l : Int} (h : Agr q qp cnt) (h1 : 0 ≤ q 1 ∧ q 1 < 6) (hc : 0 ≤ cnt ∧ cnt < 6) : Agr q (extP qp l) (cnt + 1) ∧ extP qp l (16 + (6 * q 1 + cnt)) = l ∧ ∀ i : Int, 0 ≤ i → i < cnt → extP qp l (16 + (6 * q 1 + i)) = qp (16 + (6 * q 1 + i)) := by
  obtain ⟨a1, a2, a3⟩ := h
  have e : extP qp l = upI (upI qp (16 + (6 * q 1 + cnt)) l) (10 + q 1) (cnt + 1) := by
    unfold extP
    rw [show qp 1 - 1 = q 1 by omega, a3]
  rw [e]
  refine ⟨⟨fun k k1 k2 k3 => by rw [upI_ne (by omega), upI_ne (by omega)]; exact a1 k k1 k2 k3, by rw [upI_ne (by omega), upI_ne (by omega)]; exact a2, upI_eq⟩, by rw [upI_ne (by omega)]; exact upI_eq, fun i g0 g1 => by rw [upI_ne (by omega), upI_ne (by omega)]⟩
theorem Agr_ent {q : Int → Int} (h1 : 0 ≤ q 1 ∧ q 1 < 6) : Agr q (entP q) 0 := by
  obtain ⟨f1, f2, f3⟩ := entP_f (q := q) h1.1
  exact ⟨fun k k1 k2 _ => f3 k k1 k2, f1, f2⟩
theorem RepR_pw {M : AM} {O : Nat} {q s : Int → Int} {k z v : Int} (h : RepR M O q s) (hQ : ValQ q) (hk : k = 6 * q 1 + z) (hz : 0 ≤ z ∧ z < 6) : RepR (up2 M (O + 13) k v) O q s := by
  obtain ⟨h9, h29, h30, h1, h2, h3, h4⟩ := h
  refine ⟨by rw [up2_na (by omega)]; exact h9, by rw [up2_na (by omega)]; exact h29, by rw [up2_na (by omega)]; exact h30, by rw [up2_na (by omega)]; exact h1, by rw [up2_na (by omega)]; exact h2, by rw [up2_na (by omega)]; exact h3, fun w hw hw2 i g0 g1 => ?_⟩
  have := (Q_10 hQ (i := w) (by omega) hw2).2
  rw [up2_rd, if_neg (by omega)]
  exact h4 w hw hw2 i g0 g1
theorem RepR_pend {M : AM} {O : Nat} {q qp s : Int → Int} {cnt : Int} (h : RepR M O q s) (hQ : ValQ q) (h1 : q 1 < 6) (hA : Agr q qp cnt) (hP : PIn M O q qp cnt) : RepR (up2 (up2 M (O + 12) (q 1) cnt) O 30 (q 1 + 1)) O qp s := by
  have y0 := Q_0 hQ
  have y1 := Q_1 hQ
  obtain ⟨h9, h29, h30, c1, c2, c3, c4⟩ := h
  obtain ⟨a1, a2, a3⟩ := hA
  have e0 := a1 0 (by omega) (by omega) (by omega)
  refine ⟨by rw [up2_na (by omega), up2_na (by omega)]; exact h9, by rw [e0, up2_rd, if_neg (by omega), up2_na (by omega)]; exact h29, by rw [a2]; exact rd_eq, fun i g0 g1 => ?_, fun i g0 g1 => ?_, fun i g0 g1 => ?_, fun w hw hw2 i g0 g1 => ?_⟩
  · rw [e0] at g1
    rw [a1 _ (by omega) (by omega) (by omega), up2_na (by omega), up2_na (by omega)]; exact c1 i g0 g1
  · rw [e0] at g1
    rw [a1 _ (by omega) (by omega) (by omega), up2_na (by omega), up2_na (by omega)]; exact c2 i g0 g1
  · rw [a2] at g1
    by_cases hi : i = q 1
    · rw [hi, a3, up2_na (by omega)]; exact rd_eq
    · rw [a1 _ (by omega) (by omega) (by omega), up2_na (by omega), up2_rd, if_neg (by omega)]; exact c3 i g0 (by omega)
  · rw [a2] at hw2
    by_cases hq : (w : Int) = q 1
    · rw [hq, a3] at g1
      rw [hq, up2_na (by omega), up2_na (by omega)]; exact hP i g0 g1
    · rw [a1 _ (by omega) (by omega) (by omega)] at g1
      have := (Q_10 hQ (i := w) (by omega) (by omega)).2
      rw [a1 _ (by omega) (by omega) (by omega), up2_na (by omega), up2_na (by omega)]
      exact c4 w hw (by omega) i g0 g1
theorem o183 : am_oc 183 = 9 := by decide +kernel
theorem rt183 : am_rt 183 = none := by decide +kernel
theorem gr9_51 : am_gfr 9 51 9 27 = true := by decide +kernel
theorem gi9_158 : am_gfi 9 158 9 30 = true := by decide +kernel
theorem pi183_158 : am_pfi 183 9 158 9 30 = true := by decide +kernel
theorem gr9_54 : am_gfr 9 54 9 28 = true := by decide +kernel
theorem w183_25b {g : AG} {M : AM} {O : Nat} {q s : Int → Int} {c x1 : Int} {w2 : AV} (hSO : ShModel g O) (hRR : RepR M O q s) (hQ : ValQ q) (j22 : M O 22 = c) (hc : 1 ≤ c ∧ c ≤ 4) (hx1 : 0 ≤ x1 ∧ x1 ≤ 1000) :
    Ok 3 183 25 [aR O, aI x1, w2] [] g M (Rt none g (fun M9 => M9 = M)) := by
  have yq0 : 0 ≤ q 0 ∧ q 0 ≤ 4 := Q_0 hQ
  have yq1 : 0 ≤ q 1 ∧ q 1 ≤ 6 := Q_1 hQ
  refine ok_aloadn (pc' := 26) i183_25 rfl rfl <| ok_getfi (v := c) (pc' := 29) i183_26 o183 gi9_106 (ShModel_k0 hSO) j22 rfl <| ?_
  refine ok_zne (pc1 := 101) (pc2 := 32) i183_29 (by omega) rfl rfl (fun h1 => ?_) (fun h9 => by exfalso; omega)
  refine ok_aloadn (pc' := 102) i183_101 rfl rfl <| ok_getfi (v := c) (pc' := 105) i183_102 o183 gi9_106 (ShModel_k0 hSO) j22 rfl <| ?_
  refine ok_zne (pc1 := 128) (pc2 := 108) i183_105 (by omega) rfl rfl (fun h2 => ?_) (fun h9 => by exfalso; omega)
  refine ok_vret i183_128 rt183 <| ?_
  exact ⟨rfl, rfl, rfl⟩
theorem w183_25a {g : AG} {M : AM} {O : Nat} {by_ q s : Int → Int} {n a w0 b i0 ap0 : Int} {qp0 : Int → Int} {w2 : AV} (hSO : ShModel g O) (hU : InU M O by_) (hn : 0 ≤ n ∧ n ≤ 700) (ha : 0 ≤ a ∧ a ≤ n) (hV : Val b q s) (hQ : ValQ q) (hq1 : q 1 < 6) (hw2 : am_cat w2 = 1) (hI : (fun (x : Int × Int × (Int → Int)) (M9 : AM) => (1 ≤ x.1 ∧ x.1 ≤ 6) ∧ (0 ≤ x.2.1 ∧ x.2.1 ≤ n) ∧ TokAt M9 O by_ n x.2.1 ∧ M9 O 17 = n ∧ M9 O 22 = 0 ∧ RepR M9 O q s ∧ PIn M9 O q x.2.2 x.1 ∧ Agr q x.2.2 x.1 ∧ ValQ x.2.2 ∧ (∀ y : Int, y < 18 → M9 O y = M O y) ∧ (∀ y : Int, 30 < y → M9 O y = M O y) ∧ (∀ c, c ≠ O → (c < O + 9 ∨ O + 13 < c) → M9 c = M c) ∧ ptnN by_ n s (6 - x.1).toNat x.2.1 x.2.2 = ptnL by_ n q s w0 a) (i0, ap0, qp0) M) :
    Ok 3 183 25 [aR O, aI i0, w2] [] g M (Rt none g (fun M9 => LPq M9 O by_ n (ptnL by_ n q s w0 a) ∧ (∀ y : Int, y < 18 → M9 O y = M O y) ∧ (∀ y : Int, 30 < y → M9 O y = M O y) ∧ ∀ c, c ≠ O → (c < O + 9 ∨ O + 13 < c) → M9 c = M c)) := by
  have ys3 : 0 ≤ s 3 ∧ s 3 ≤ 80 := V_3 hV
  have ys4 : 0 ≤ s 4 ∧ s 4 ≤ 16 := V_4 hV
  have yq0 : 0 ≤ q 0 ∧ q 0 ≤ 4 := Q_0 hQ
  have yq1 : 0 ≤ q 1 ∧ q 1 ≤ 6 := Q_1 hQ
  refine ok_while (σ := Int × Int × (Int → Int)) (fun x ls M9 => (1 ≤ x.1 ∧ x.1 ≤ 6) ∧ (0 ≤ x.2.1 ∧ x.2.1 ≤ n) ∧ TokAt M9 O by_ n x.2.1 ∧ M9 O 17 = n ∧ M9 O 22 = 0 ∧ RepR M9 O q s ∧ PIn M9 O q x.2.2 x.1 ∧ Agr q x.2.2 x.1 ∧ ValQ x.2.2 ∧ (∀ y : Int, y < 18 → M9 O y = M O y) ∧ (∀ y : Int, 30 < y → M9 O y = M O y) ∧ (∀ c, c ≠ O → (c < O + 9 ∨ O + 13 < c) → M9 c = M c) ∧ ptnN by_ n s (6 - x.1).toNat x.2.1 x.2.2 = ptnL by_ n q s w0 a ∧ ∃ w2 : AV, am_cat w2 = 1 ∧ ls = [aR O, aI x.1, w2]) (fun x => (6 - x.1).toNat) ?_ (i0, ap0, qp0) _ M ?_
  · rintro ⟨i, ap, qp⟩ ls M9 ⟨hi, hap, hT9, h917, h922, hR9, hP9, hA9, hQ9, hYl9, hYh9, hC9, hR, w2, hw2, rfl⟩ ih
    dsimp only at *
    have hTx : True ∧ True ∧ True ∧ (tyS by_ n ap = 1 → M9 O 21 = vaS by_ n ap) ∧ True := ⟨trivial, trivial, trivial, hT9.2.2.2, trivial⟩
    have rap := en_rg (by_ := by_) (n := n) (a := ap) (by omega)
    have rap : (ap ≤ (stS by_ n ap) ∧ (stS by_ n ap) ≤ n ∧ (stS by_ n ap) ≤ (enS by_ n ap) ∧ (enS by_ n ap) ≤ n) ∧ 0 ≤ (tyS by_ n ap) ∧ (tyS by_ n ap) ≤ 4 := ⟨⟨rap.1, rap.2.1, rap.2.2.1, rap.2.2.2.1⟩, rap.2.2.2.2.2⟩
    have rsr := (srt_f (ty := tyS by_ n ap) (by omega)).1
    have hU9 : InU M9 O by_ := fun i h0 h1 => by rw [hC9 _ (by omega) (by omega)]; exact hU i h0 h1
    refine ok_aloadn (pc' := 26) i183_25 rfl rfl <| ok_getfi (v := 0) (pc' := 29) i183_26 o183 gi9_106 (ShModel_k0 hSO) h922 rfl <| ok_kz0 (pc1 := 101) (pc2 := 32) i183_29 (by decide) rfl rfl <| ok_iloadn (pc' := 33) i183_32 rfl rfl <| ?_
    refine ok_zeq (pc1 := 44) (pc2 := 36) i183_33 (by omega) rfl rfl (fun h9 => by exfalso; omega) (fun h21 => ?_)
    refine ok_aloadn (pc' := 37) i183_36 rfl rfl <| ok_getfi (v := (srt (tyS by_ n ap))) (pc' := 40) i183_37 o183 gi9_93 (ShModel_k0 hSO) hT9.2.2.1 rfl <| ok_iconst (pc' := 41) i183_40 rfl <| ?_
    refine ok_cne (pc1 := 101) (pc2 := 44) i183_41 (by omega) rfl rfl (fun h22 => ?_) (fun h22 => ?_)
    · refine ok_aloadn (pc' := 102) i183_101 rfl rfl <| ok_getfi (v := 0) (pc' := 105) i183_102 o183 gi9_106 (ShModel_k0 hSO) h922 rfl <| ok_kz0 (pc1 := 128) (pc2 := 108) i183_105 (by decide) rfl rfl <| ok_aloadn (pc' := 109) i183_108 rfl rfl <| ok_getfr (r := (O + 12)) (pc' := 112) i183_109 o183 gr9_51 (ShModel_k0 hSO) (ShModel_r27 hSO) rfl <| ok_aloadn (pc' := 113) i183_112 rfl rfl <| ok_getfi (v := (q 1)) (pc' := 116) i183_113 o183 gi9_158 (ShModel_k0 hSO) hR9.2.2.1 rfl <| ok_iloadn (pc' := 117) i183_116 rfl rfl <| ?_
      refine ok_iastore (pc' := 118) i183_117 (ShModel_k12 hSO) (ShModel_l12 hSO) (by omega) rfl <| ok_aloadn (pc' := 119) i183_118 rfl rfl <| ok_dup (pc' := 120) i183_119 rfl rfl <| ok_getfi (v := (q 1)) (pc' := 123) i183_120 o183 gi9_158 (ShModel_k0 hSO) (rd_na (by omega) hR9.2.2.1) rfl <| ok_iconst (pc' := 124) i183_123 rfl <| ok_iadd (v := ((q 1) + 1)) (pc' := 125) i183_124 rfl rfl <| ok_putfj (kk := 30) (pc' := 128) i183_125 o183 pi183_158 (ShModel_k0 hSO) rfl rfl <| ok_vret i183_128 rt183 <| ?_
      have ht1 : tyS by_ n ap ≠ 1 := fun h9 => by have := (srt_f (ty := tyS by_ n ap) (by omega)).2.1.mpr h9; omega
      rcases dg_0 (by_ := by_) (n := n) (a := ap) ht1 with hd | ⟨hd, ht4⟩
      · have e : ptnL by_ n q s w0 a = .inr (stS by_ n ap, qp, s) := by rw [← hR]; cases (6 - i).toNat <;> rw [ptnN, if_pos (by omega)]
        exact ⟨rfl, rfl, Or.inl (by rw [e]; exact ⟨(rd_ni (by decide) (rd_na (by omega) h922)), ⟨by rw [tokS.1]; exact (by rw [up2_rd, if_neg (by omega), up2_na (by omega)]; exact hT9.1), by rw [stS_S]; exact (by rw [up2_rd, if_neg (by omega), up2_na (by omega)]; exact hT9.2.1), by rw [tokS.2.1]; exact (by rw [up2_rd, if_neg (by omega), up2_na (by omega)]; exact hT9.2.2.1), fun h7 => by rw [tokS.2.1] at h7; exact absurd h7 ht1⟩, RepR_pend hR9 hQ (by omega) hA9 hP9⟩), fun y hy => by rw [up2_rd, if_neg (by omega), up2_na (by omega)]; exact hYl9 y hy, fun y hy => by rw [up2_rd, if_neg (by omega), up2_na (by omega)]; exact hYh9 y hy, fun c h1 h2 => by rw [up2_na (by omega), up2_na (by omega)]; exact hC9 c h1 h2⟩
      · have e : ptnL by_ n q s w0 a = .inl (1, stS by_ n ap) := by
          have n1 := nu_1 (by_ := by_) (n := n) (lo := 1) (hi := 200) (a := ap) (by omega) (by omega)
          rw [← hR]; cases (6 - i).toNat <;> rw [ptnN, if_neg (by omega), nuS.2, if_pos n1.2, nuS.1, n1.1, stS_S]
        exact ⟨rfl, rfl, Or.inr ⟨stS by_ n ap, e, (rd_ni (by decide) (rd_na (by omega) h922)), (by rw [up2_rd, if_neg (by omega), up2_na (by omega)]; exact hT9.2.1), by rw [up2_rd, if_neg (by omega), up2_na (by omega)]; rw [hT9.2.2.1, ht4]; rfl⟩, fun y hy => by rw [up2_rd, if_neg (by omega), up2_na (by omega)]; exact hYl9 y hy, fun y hy => by rw [up2_rd, if_neg (by omega), up2_na (by omega)]; exact hYh9 y hy, fun c h1 h2 => by rw [up2_na (by omega), up2_na (by omega)]; exact hC9 c h1 h2⟩
    · refine ok_aloadn (pc' := 45) i183_44 rfl rfl <| ok_iconst (pc' := 46) i183_45 rfl <| ok_sipush (v := 200) (pc' := 49) i183_46 rfl rfl <| ok_cc i183_49 rfl (cl_v o183 m9_144 na177 rfl rfl (bt rfl) (bt rfl) rfl (by rw [ShModel_k0 hSO, o177])) ln177 (pd177 (aR O) (aI 1) (aI 200)) <| ok_aloadn (pc' := 1) i177_0 rfl rfl <| ok_getfi (v := (srt (tyS by_ n ap))) (pc' := 4) i177_1 o177 gi9_93 (ShModel_k0 hSO) hT9.2.2.1 rfl <| ok_iconst (pc' := 5) i177_4 rfl <| ?_
      refine ok_ceq (pc1 := 16) (pc2 := 8) i177_5 (by omega) rfl rfl (fun h23 => ?_) (fun h9 => by exfalso; omega)
      refine ok_aloadn (pc' := 17) i177_16 rfl rfl <| ?_
      have z61 : 0 ≤ (vaS by_ n ap) ∧ (vaS by_ n ap) ≤ 999 := (va_rg (by omega) ((srt_f (by omega)).2.1.mp (by omega)))
      refine ok_getfi (v := (vaS by_ n ap)) (pc' := 20) i177_17 o177 gi9_103 (ShModel_k0 hSO) (hTx.2.2.2.1 ((srt_f (by omega)).2.1.mp (by omega))) rfl <| ok_iloadn (pc' := 21) i177_20 rfl rfl <| ok_iloadn (pc' := 22) i177_21 rfl rfl <| ok_cc i177_22 rfl (cl_s o177 m9_140 na164 rfl rfl (bt rfl) (bt rfl) rfl) ln164 (pd164 (aI (vaS by_ n ap)) (aI 1) (aI 200)) <| ok_iloadn (pc' := 1) i164_0 rfl rfl <| ok_iloadn (pc' := 2) i164_1 rfl rfl <| ?_
      refine ok_clt (pc1 := 14) (pc2 := 5) i164_2 (by omega) rfl rfl (fun h24 => ?_) (fun h24 => ?_)
      · refine ok_iconst (pc' := 15) i164_14 rfl <| ok_iretz i164_15 rt164 (by decide) <| kt_v (pc' := 25) rfl <| ok_kz0 (pc1 := 33) (pc2 := 28) i177_25 (by decide) rfl rfl <| ok_aloadn (pc' := 29) i177_28 rfl rfl <| ok_iconst (pc' := 30) i177_29 rfl <| ok_cc i177_30 rfl (cl_v o177 m9_112 na174 rfl rfl (bt rfl) (bt rfl) rfl (by rw [ShModel_k0 hSO, o174])) ln174 (pd174 (aR O) (aI 2)) <| ok_aloadn (pc' := 1) i174_0 rfl rfl <| ?_
        refine ok_getfi (v := 0) (pc' := 4) i174_1 o174 gi9_106 (ShModel_k0 hSO) h922 rfl <| ok_kz0 (pc1 := 20) (pc2 := 7) i174_4 (by decide) rfl rfl <| ok_aloadn (pc' := 8) i174_7 rfl rfl <| ok_iloadn (pc' := 9) i174_8 rfl rfl <| ok_putfj (kk := 22) (pc' := 12) i174_9 o174 pi174_106 (ShModel_k0 hSO) rfl rfl <| ok_aloadn (pc' := 13) i174_12 rfl rfl <| ok_aloadn (pc' := 14) i174_13 rfl rfl <| ok_getfi (v := (stS by_ n ap)) (pc' := 17) i174_14 o174 gi9_90 (ShModel_k0 hSO) (rd_ni (by decide) hT9.2.1) rfl <| ?_
        refine ok_putfj (kk := 23) (pc' := 20) i174_17 o174 pi174_109 (ShModel_k0 hSO) rfl rfl <| ok_vret i174_20 rt174 <| kt_0 (pc' := 33) rfl <| ok_aloadn (pc' := 34) i177_33 rfl rfl <| ok_getfi (v := 2) (pc' := 37) i177_34 o177 gi9_106 (ShModel_k0 hSO) (rd_ni (by decide) rd_eq) rfl <| ok_kz0 (pc1 := 44) (pc2 := 40) i177_37 (by decide) rfl rfl <| ok_iloadn (pc' := 41) i177_40 rfl rfl <| ok_goto (pc' := 48) i177_41 rfl <| ?_
        refine ok_ireti i177_48 rt177 <| kt_v (pc' := 52) rfl <| ok_istoren (pc' := 53) (ls' := [aR O, aI i, aI 1]) i183_52 (bt rfl) rfl rfl <| ok_aloadn (pc' := 54) i183_53 rfl rfl <| ok_iloadn (pc' := 55) i183_54 rfl rfl <| ok_bipush (v := 6) (pc' := 57) i183_55 rfl rfl <| ?_
        refine ok_cne (pc1 := 64) (pc2 := 60) i183_57 (by omega) rfl rfl (fun h25 => ?_) (fun h25 => ?_)
        · refine ok_iconst (pc' := 65) i183_64 rfl <| ok_iconst (pc' := 66) i183_65 rfl <| ok_cc i183_66 rfl (cl_v o183 m9_133 na173 rfl rfl (bt rfl) (bt rfl) rfl (by rw [ShModel_k0 hSO, o173])) ln173 (pd173 (aR O) (aI 0) (aI 4)) <| ok_iloadn (pc' := 1) i173_0 rfl rfl <| ok_kz1 (pc1 := 9) (pc2 := 4) i173_1 (by decide) rfl rfl <| ok_vret i173_9 rt173 <| kt_0 (pc' := 69) rfl <| ok_aloadn (pc' := 70) i183_69 rfl rfl <| ?_
          refine ok_getfi (v := 2) (pc' := 73) i183_70 o183 gi9_106 (ShModel_k0 hSO) (rd_ni (by decide) rd_eq) rfl <| ok_kz1 (pc1 := 91) (pc2 := 76) i183_73 (by decide) rfl rfl <| ok_aloadn (pc' := 92) i183_91 rfl rfl <| ok_cc i183_92 rfl (cl_v o183 m9_137 na175 rfl rfl (bt rfl) (bt rfl) rfl (by rw [ShModel_k0 hSO, o175])) ln175 (pd175 (aR O)) <| ok_aloadn (pc' := 1) i175_0 rfl rfl <| ok_getfi (v := 2) (pc' := 4) i175_1 o175 gi9_106 (ShModel_k0 hSO) (rd_ni (by decide) rd_eq) rfl <| ok_kz1 (pc1 := 11) (pc2 := 7) i175_4 (by decide) rfl rfl <| ok_vret i175_11 rt175 <| ?_
          refine kt_0 (pc' := 95) rfl <| ok_iinc (pc' := 98) (v := (i + 1)) (ls' := [aR O, aI (i + 1), aI 1]) i183_95 rfl rfl rfl rfl <| ok_goto (pc' := 25) i183_98 rfl <| ?_
          have ht1 : tyS by_ n ap = 1 := (srt_f (ty := tyS by_ n ap) (by omega)).2.1.mp (by omega)
          have hd := dg_1 ht1
          refine (w183_25b (c := 2) (x1 := (i + 1)) (M := (up2 (up2 M9 O 22 2) O 23 (stS by_ n ap))) hSO (RepR.fr hR9 ⟨by rw [up2_rd, if_neg (by omega), up2_rd, if_neg (by omega)], by rw [up2_rd, if_neg (by omega), up2_rd, if_neg (by omega)]⟩ (fun a h1 h2 => by rw [up2_na (by omega), up2_na (by omega)])) hQ (rd_ni (by decide) rd_eq) (by omega) (by omega)).mono (fun o g1 M1 h => ?_)
          obtain ⟨q1, q2, rfl⟩ := h
          have e : ptnL by_ n q s w0 a = .inl (2, (stS by_ n ap)) := by have n2 := nu_2 (by_ := by_) (n := n) (lo := 1) (hi := 200) (a := ap) (by omega) (by omega) (by omega); rw [← hR]; cases (6 - i).toNat <;> rw [ptnN, if_neg (by omega), nuS.2, if_pos n2.2, nuS.1, n2.1, stS_S]
          exact ⟨q1, q2, Or.inl (by rw [e]; exact ⟨(rd_ni (by decide) rd_eq), rd_eq, (show (1 : Int) ≤ 2 by decide), (show (2 : Int) ≤ 4 by decide)⟩), fun y hy => by rw [up2_rd, if_neg (by omega), up2_rd, if_neg (by omega)]; exact hYl9 y hy, fun y hy => by rw [up2_rd, if_neg (by omega), up2_rd, if_neg (by omega)]; exact hYh9 y hy, fun c h1 h2 => by rw [up2_na (by omega), up2_na (by omega)]; exact hC9 c h1 h2⟩
        · refine ok_iconst (pc' := 61) i183_60 rfl <| ok_goto (pc' := 65) i183_61 rfl <| ok_iconst (pc' := 66) i183_65 rfl <| ok_cc i183_66 rfl (cl_v o183 m9_133 na173 rfl rfl (bt rfl) (bt rfl) rfl (by rw [ShModel_k0 hSO, o173])) ln173 (pd173 (aR O) (aI 1) (aI 4)) <| ok_iloadn (pc' := 1) i173_0 rfl rfl <| ok_kz0 (pc1 := 9) (pc2 := 4) i173_1 (by decide) rfl rfl <| ok_aloadn (pc' := 5) i173_4 rfl rfl <| ok_iloadn (pc' := 6) i173_5 rfl rfl <| ?_
          refine ok_cc i173_6 rfl (cl_v o173 m9_112 na174 rfl rfl (bt rfl) (bt rfl) rfl (by rw [ShModel_k0 hSO, o174])) ln174 (pd174 (aR O) (aI 4)) <| ok_aloadn (pc' := 1) i174_0 rfl rfl <| ok_getfi (v := 2) (pc' := 4) i174_1 o174 gi9_106 (ShModel_k0 hSO) (rd_ni (by decide) rd_eq) rfl <| ok_kz1 (pc1 := 20) (pc2 := 7) i174_4 (by decide) rfl rfl <| ok_vret i174_20 rt174 <| kt_0 (pc' := 9) rfl <| ok_vret i173_9 rt173 <| kt_0 (pc' := 69) rfl <| ?_
          refine ok_aloadn (pc' := 70) i183_69 rfl rfl <| ok_getfi (v := 2) (pc' := 73) i183_70 o183 gi9_106 (ShModel_k0 hSO) (rd_ni (by decide) rd_eq) rfl <| ok_kz1 (pc1 := 91) (pc2 := 76) i183_73 (by decide) rfl rfl <| ok_aloadn (pc' := 92) i183_91 rfl rfl <| ok_cc i183_92 rfl (cl_v o183 m9_137 na175 rfl rfl (bt rfl) (bt rfl) rfl (by rw [ShModel_k0 hSO, o175])) ln175 (pd175 (aR O)) <| ok_aloadn (pc' := 1) i175_0 rfl rfl <| ok_getfi (v := 2) (pc' := 4) i175_1 o175 gi9_106 (ShModel_k0 hSO) (rd_ni (by decide) rd_eq) rfl <| ok_kz1 (pc1 := 11) (pc2 := 7) i175_4 (by decide) rfl rfl <| ?_
          refine ok_vret i175_11 rt175 <| kt_0 (pc' := 95) rfl <| ok_iinc (pc' := 98) (v := (i + 1)) (ls' := [aR O, aI (i + 1), aI 1]) i183_95 rfl rfl rfl rfl <| ok_goto (pc' := 25) i183_98 rfl <| ?_
          have ht1 : tyS by_ n ap = 1 := (srt_f (ty := tyS by_ n ap) (by omega)).2.1.mp (by omega)
          have hd := dg_1 ht1
          refine (w183_25b (c := 2) (x1 := (i + 1)) (M := (up2 (up2 M9 O 22 2) O 23 (stS by_ n ap))) hSO (RepR.fr hR9 ⟨by rw [up2_rd, if_neg (by omega), up2_rd, if_neg (by omega)], by rw [up2_rd, if_neg (by omega), up2_rd, if_neg (by omega)]⟩ (fun a h1 h2 => by rw [up2_na (by omega), up2_na (by omega)])) hQ (rd_ni (by decide) rd_eq) (by omega) (by omega)).mono (fun o g1 M1 h => ?_)
          obtain ⟨q1, q2, rfl⟩ := h
          have e : ptnL by_ n q s w0 a = .inl (2, (stS by_ n ap)) := by have n2 := nu_2 (by_ := by_) (n := n) (lo := 1) (hi := 200) (a := ap) (by omega) (by omega) (by omega); rw [← hR]; cases (6 - i).toNat <;> rw [ptnN, if_neg (by omega), nuS.2, if_pos n2.2, nuS.1, n2.1, stS_S]
          exact ⟨q1, q2, Or.inl (by rw [e]; exact ⟨(rd_ni (by decide) rd_eq), rd_eq, (show (1 : Int) ≤ 2 by decide), (show (2 : Int) ≤ 4 by decide)⟩), fun y hy => by rw [up2_rd, if_neg (by omega), up2_rd, if_neg (by omega)]; exact hYl9 y hy, fun y hy => by rw [up2_rd, if_neg (by omega), up2_rd, if_neg (by omega)]; exact hYh9 y hy, fun c h1 h2 => by rw [up2_na (by omega), up2_na (by omega)]; exact hC9 c h1 h2⟩
      · refine ok_iloadn (pc' := 6) i164_5 rfl rfl <| ok_iloadn (pc' := 7) i164_6 rfl rfl <| ?_
        refine ok_cgt (pc1 := 14) (pc2 := 10) i164_7 (by omega) rfl rfl (fun h26 => ?_) (fun h26 => ?_)
        · refine ok_iconst (pc' := 15) i164_14 rfl <| ok_iretz i164_15 rt164 (by decide) <| kt_v (pc' := 25) rfl <| ok_kz0 (pc1 := 33) (pc2 := 28) i177_25 (by decide) rfl rfl <| ok_aloadn (pc' := 29) i177_28 rfl rfl <| ok_iconst (pc' := 30) i177_29 rfl <| ok_cc i177_30 rfl (cl_v o177 m9_112 na174 rfl rfl (bt rfl) (bt rfl) rfl (by rw [ShModel_k0 hSO, o174])) ln174 (pd174 (aR O) (aI 2)) <| ok_aloadn (pc' := 1) i174_0 rfl rfl <| ?_
          refine ok_getfi (v := 0) (pc' := 4) i174_1 o174 gi9_106 (ShModel_k0 hSO) h922 rfl <| ok_kz0 (pc1 := 20) (pc2 := 7) i174_4 (by decide) rfl rfl <| ok_aloadn (pc' := 8) i174_7 rfl rfl <| ok_iloadn (pc' := 9) i174_8 rfl rfl <| ok_putfj (kk := 22) (pc' := 12) i174_9 o174 pi174_106 (ShModel_k0 hSO) rfl rfl <| ok_aloadn (pc' := 13) i174_12 rfl rfl <| ok_aloadn (pc' := 14) i174_13 rfl rfl <| ok_getfi (v := (stS by_ n ap)) (pc' := 17) i174_14 o174 gi9_90 (ShModel_k0 hSO) (rd_ni (by decide) hT9.2.1) rfl <| ?_
          refine ok_putfj (kk := 23) (pc' := 20) i174_17 o174 pi174_109 (ShModel_k0 hSO) rfl rfl <| ok_vret i174_20 rt174 <| kt_0 (pc' := 33) rfl <| ok_aloadn (pc' := 34) i177_33 rfl rfl <| ok_getfi (v := 2) (pc' := 37) i177_34 o177 gi9_106 (ShModel_k0 hSO) (rd_ni (by decide) rd_eq) rfl <| ok_kz0 (pc1 := 44) (pc2 := 40) i177_37 (by decide) rfl rfl <| ok_iloadn (pc' := 41) i177_40 rfl rfl <| ok_goto (pc' := 48) i177_41 rfl <| ?_
          refine ok_ireti i177_48 rt177 <| kt_v (pc' := 52) rfl <| ok_istoren (pc' := 53) (ls' := [aR O, aI i, aI 1]) i183_52 (bt rfl) rfl rfl <| ok_aloadn (pc' := 54) i183_53 rfl rfl <| ok_iloadn (pc' := 55) i183_54 rfl rfl <| ok_bipush (v := 6) (pc' := 57) i183_55 rfl rfl <| ?_
          refine ok_cne (pc1 := 64) (pc2 := 60) i183_57 (by omega) rfl rfl (fun h27 => ?_) (fun h27 => ?_)
          · refine ok_iconst (pc' := 65) i183_64 rfl <| ok_iconst (pc' := 66) i183_65 rfl <| ok_cc i183_66 rfl (cl_v o183 m9_133 na173 rfl rfl (bt rfl) (bt rfl) rfl (by rw [ShModel_k0 hSO, o173])) ln173 (pd173 (aR O) (aI 0) (aI 4)) <| ok_iloadn (pc' := 1) i173_0 rfl rfl <| ok_kz1 (pc1 := 9) (pc2 := 4) i173_1 (by decide) rfl rfl <| ok_vret i173_9 rt173 <| kt_0 (pc' := 69) rfl <| ok_aloadn (pc' := 70) i183_69 rfl rfl <| ?_
            refine ok_getfi (v := 2) (pc' := 73) i183_70 o183 gi9_106 (ShModel_k0 hSO) (rd_ni (by decide) rd_eq) rfl <| ok_kz1 (pc1 := 91) (pc2 := 76) i183_73 (by decide) rfl rfl <| ok_aloadn (pc' := 92) i183_91 rfl rfl <| ok_cc i183_92 rfl (cl_v o183 m9_137 na175 rfl rfl (bt rfl) (bt rfl) rfl (by rw [ShModel_k0 hSO, o175])) ln175 (pd175 (aR O)) <| ok_aloadn (pc' := 1) i175_0 rfl rfl <| ok_getfi (v := 2) (pc' := 4) i175_1 o175 gi9_106 (ShModel_k0 hSO) (rd_ni (by decide) rd_eq) rfl <| ok_kz1 (pc1 := 11) (pc2 := 7) i175_4 (by decide) rfl rfl <| ok_vret i175_11 rt175 <| ?_
            refine kt_0 (pc' := 95) rfl <| ok_iinc (pc' := 98) (v := (i + 1)) (ls' := [aR O, aI (i + 1), aI 1]) i183_95 rfl rfl rfl rfl <| ok_goto (pc' := 25) i183_98 rfl <| ?_
            have ht1 : tyS by_ n ap = 1 := (srt_f (ty := tyS by_ n ap) (by omega)).2.1.mp (by omega)
            have hd := dg_1 ht1
            refine (w183_25b (c := 2) (x1 := (i + 1)) (M := (up2 (up2 M9 O 22 2) O 23 (stS by_ n ap))) hSO (RepR.fr hR9 ⟨by rw [up2_rd, if_neg (by omega), up2_rd, if_neg (by omega)], by rw [up2_rd, if_neg (by omega), up2_rd, if_neg (by omega)]⟩ (fun a h1 h2 => by rw [up2_na (by omega), up2_na (by omega)])) hQ (rd_ni (by decide) rd_eq) (by omega) (by omega)).mono (fun o g1 M1 h => ?_)
            obtain ⟨q1, q2, rfl⟩ := h
            have e : ptnL by_ n q s w0 a = .inl (2, (stS by_ n ap)) := by have n2 := nu_2 (by_ := by_) (n := n) (lo := 1) (hi := 200) (a := ap) (by omega) (by omega) (by omega); rw [← hR]; cases (6 - i).toNat <;> rw [ptnN, if_neg (by omega), nuS.2, if_pos n2.2, nuS.1, n2.1, stS_S]
            exact ⟨q1, q2, Or.inl (by rw [e]; exact ⟨(rd_ni (by decide) rd_eq), rd_eq, (show (1 : Int) ≤ 2 by decide), (show (2 : Int) ≤ 4 by decide)⟩), fun y hy => by rw [up2_rd, if_neg (by omega), up2_rd, if_neg (by omega)]; exact hYl9 y hy, fun y hy => by rw [up2_rd, if_neg (by omega), up2_rd, if_neg (by omega)]; exact hYh9 y hy, fun c h1 h2 => by rw [up2_na (by omega), up2_na (by omega)]; exact hC9 c h1 h2⟩
          · refine ok_iconst (pc' := 61) i183_60 rfl <| ok_goto (pc' := 65) i183_61 rfl <| ok_iconst (pc' := 66) i183_65 rfl <| ok_cc i183_66 rfl (cl_v o183 m9_133 na173 rfl rfl (bt rfl) (bt rfl) rfl (by rw [ShModel_k0 hSO, o173])) ln173 (pd173 (aR O) (aI 1) (aI 4)) <| ok_iloadn (pc' := 1) i173_0 rfl rfl <| ok_kz0 (pc1 := 9) (pc2 := 4) i173_1 (by decide) rfl rfl <| ok_aloadn (pc' := 5) i173_4 rfl rfl <| ok_iloadn (pc' := 6) i173_5 rfl rfl <| ?_
            refine ok_cc i173_6 rfl (cl_v o173 m9_112 na174 rfl rfl (bt rfl) (bt rfl) rfl (by rw [ShModel_k0 hSO, o174])) ln174 (pd174 (aR O) (aI 4)) <| ok_aloadn (pc' := 1) i174_0 rfl rfl <| ok_getfi (v := 2) (pc' := 4) i174_1 o174 gi9_106 (ShModel_k0 hSO) (rd_ni (by decide) rd_eq) rfl <| ok_kz1 (pc1 := 20) (pc2 := 7) i174_4 (by decide) rfl rfl <| ok_vret i174_20 rt174 <| kt_0 (pc' := 9) rfl <| ok_vret i173_9 rt173 <| kt_0 (pc' := 69) rfl <| ?_
            refine ok_aloadn (pc' := 70) i183_69 rfl rfl <| ok_getfi (v := 2) (pc' := 73) i183_70 o183 gi9_106 (ShModel_k0 hSO) (rd_ni (by decide) rd_eq) rfl <| ok_kz1 (pc1 := 91) (pc2 := 76) i183_73 (by decide) rfl rfl <| ok_aloadn (pc' := 92) i183_91 rfl rfl <| ok_cc i183_92 rfl (cl_v o183 m9_137 na175 rfl rfl (bt rfl) (bt rfl) rfl (by rw [ShModel_k0 hSO, o175])) ln175 (pd175 (aR O)) <| ok_aloadn (pc' := 1) i175_0 rfl rfl <| ok_getfi (v := 2) (pc' := 4) i175_1 o175 gi9_106 (ShModel_k0 hSO) (rd_ni (by decide) rd_eq) rfl <| ok_kz1 (pc1 := 11) (pc2 := 7) i175_4 (by decide) rfl rfl <| ?_
            refine ok_vret i175_11 rt175 <| kt_0 (pc' := 95) rfl <| ok_iinc (pc' := 98) (v := (i + 1)) (ls' := [aR O, aI (i + 1), aI 1]) i183_95 rfl rfl rfl rfl <| ok_goto (pc' := 25) i183_98 rfl <| ?_
            have ht1 : tyS by_ n ap = 1 := (srt_f (ty := tyS by_ n ap) (by omega)).2.1.mp (by omega)
            have hd := dg_1 ht1
            refine (w183_25b (c := 2) (x1 := (i + 1)) (M := (up2 (up2 M9 O 22 2) O 23 (stS by_ n ap))) hSO (RepR.fr hR9 ⟨by rw [up2_rd, if_neg (by omega), up2_rd, if_neg (by omega)], by rw [up2_rd, if_neg (by omega), up2_rd, if_neg (by omega)]⟩ (fun a h1 h2 => by rw [up2_na (by omega), up2_na (by omega)])) hQ (rd_ni (by decide) rd_eq) (by omega) (by omega)).mono (fun o g1 M1 h => ?_)
            obtain ⟨q1, q2, rfl⟩ := h
            have e : ptnL by_ n q s w0 a = .inl (2, (stS by_ n ap)) := by have n2 := nu_2 (by_ := by_) (n := n) (lo := 1) (hi := 200) (a := ap) (by omega) (by omega) (by omega); rw [← hR]; cases (6 - i).toNat <;> rw [ptnN, if_neg (by omega), nuS.2, if_pos n2.2, nuS.1, n2.1, stS_S]
            exact ⟨q1, q2, Or.inl (by rw [e]; exact ⟨(rd_ni (by decide) rd_eq), rd_eq, (show (1 : Int) ≤ 2 by decide), (show (2 : Int) ≤ 4 by decide)⟩), fun y hy => by rw [up2_rd, if_neg (by omega), up2_rd, if_neg (by omega)]; exact hYl9 y hy, fun y hy => by rw [up2_rd, if_neg (by omega), up2_rd, if_neg (by omega)]; exact hYh9 y hy, fun c h1 h2 => by rw [up2_na (by omega), up2_na (by omega)]; exact hC9 c h1 h2⟩
        · refine ok_iconst (pc' := 11) i164_10 rfl <| ok_goto (pc' := 15) i164_11 rfl <| ok_iretz i164_15 rt164 (by decide) <| kt_v (pc' := 25) rfl <| ok_kz1 (pc1 := 33) (pc2 := 28) i177_25 (by decide) rfl rfl <| ok_aloadn (pc' := 34) i177_33 rfl rfl <| ok_getfi (v := 0) (pc' := 37) i177_34 o177 gi9_106 (ShModel_k0 hSO) h922 rfl <| ok_kz1 (pc1 := 44) (pc2 := 40) i177_37 (by decide) rfl rfl <| ?_
          refine ok_aloadn (pc' := 45) i177_44 rfl rfl <| ok_getfi (v := (vaS by_ n ap)) (pc' := 48) i177_45 o177 gi9_103 (ShModel_k0 hSO) (hTx.2.2.2.1 ((srt_f (by omega)).2.1.mp (by omega))) rfl <| ok_ireti i177_48 rt177 <| kt_v (pc' := 52) rfl <| ok_istoren (pc' := 53) (ls' := [aR O, aI i, aI (vaS by_ n ap)]) i183_52 (bt rfl) rfl rfl <| ok_aloadn (pc' := 54) i183_53 rfl rfl <| ok_iloadn (pc' := 55) i183_54 rfl rfl <| ok_bipush (v := 6) (pc' := 57) i183_55 rfl rfl <| ?_
          refine ok_cne (pc1 := 64) (pc2 := 60) i183_57 (by omega) rfl rfl (fun h28 => ?_) (fun h28 => ?_)
          · refine ok_iconst (pc' := 65) i183_64 rfl <| ok_iconst (pc' := 66) i183_65 rfl <| ok_cc i183_66 rfl (cl_v o183 m9_133 na173 rfl rfl (bt rfl) (bt rfl) rfl (by rw [ShModel_k0 hSO, o173])) ln173 (pd173 (aR O) (aI 0) (aI 4)) <| ok_iloadn (pc' := 1) i173_0 rfl rfl <| ok_kz1 (pc1 := 9) (pc2 := 4) i173_1 (by decide) rfl rfl <| ok_vret i173_9 rt173 <| kt_0 (pc' := 69) rfl <| ok_aloadn (pc' := 70) i183_69 rfl rfl <| ?_
            refine ok_getfi (v := 0) (pc' := 73) i183_70 o183 gi9_106 (ShModel_k0 hSO) h922 rfl <| ok_kz0 (pc1 := 91) (pc2 := 76) i183_73 (by decide) rfl rfl <| ok_aloadn (pc' := 77) i183_76 rfl rfl <| ok_getfr (r := (O + 13)) (pc' := 80) i183_77 o183 gr9_54 (ShModel_k0 hSO) (ShModel_r28 hSO) rfl <| ok_bipush (v := 6) (pc' := 82) i183_80 rfl rfl <| ok_aloadn (pc' := 83) i183_82 rfl rfl <| ok_getfi (v := (q 1)) (pc' := 86) i183_83 o183 gi9_158 (ShModel_k0 hSO) hR9.2.2.1 rfl <| ok_imul (v := (6 * (q 1))) (pc' := 87) i183_86 rfl rfl <| ?_
            refine ok_iloadn (pc' := 88) i183_87 rfl rfl <| ok_iadd (v := ((6 * (q 1)) + i)) (pc' := 89) i183_88 rfl rfl <| ok_iloadn (pc' := 90) i183_89 rfl rfl <| ok_iastore (pc' := 91) i183_90 (ShModel_k13 hSO) (ShModel_l13 hSO) (by omega) rfl <| ok_aloadn (pc' := 92) i183_91 rfl rfl <| ok_cc i183_92 rfl (cl_v o183 m9_137 na175 rfl rfl (bt rfl) (bt rfl) rfl (by rw [ShModel_k0 hSO, o175])) ln175 (pd175 (aR O)) <| ok_aloadn (pc' := 1) i175_0 rfl rfl <| ok_getfi (v := 0) (pc' := 4) i175_1 o175 gi9_106 (ShModel_k0 hSO) (rd_na (by omega) h922) rfl <| ?_
            refine ok_kz0 (pc1 := 11) (pc2 := 7) i175_4 (by decide) rfl rfl <| ok_aloadn (pc' := 8) i175_7 rfl rfl <| ?_
            obtain ⟨M8, hM8⟩ : ∃ u9 : AM, u9 = (up2 M9 (O + 13) ((6 * (q 1)) + i) (vaS by_ n ap)) := ⟨_, rfl⟩
            show Ok _ _ _ _ _ _ (up2 M9 (O + 13) ((6 * (q 1)) + i) (vaS by_ n ap)) _
            rw [← hM8]
            have hC8 : ∀ c, c ≠ O + 13 → M8 c = M9 c := fun c hc => by rw [hM8, up2_na hc]
            have hR8 : RepR M8 O q s := by rw [hM8]; exact RepR_pw hR9 hQ (z := i) (by omega) (by omega)
            have hU8 : InU M8 O by_ := fun i h0 h1 => by rw [hC8 _ (by omega)]; exact hU9 i h0 h1
            refine ok_cn0 (pc' := 11) (d0 := 1) i175_8 rfl (cl_v o175 m9_116 na167 rfl rfl (bt rfl) (bt rfl) rfl (by rw [ShModel_k0 hSO, o167])) ln167 (pd167 (aR O)) (by omega) (t167 (a := (enS by_ n ap)) hSO hU8 ((congrFun (hC8 O (by omega)) 17).trans h917) hn (by omega) ((congrFun (hC8 O (by omega)) 18).trans hT9.1)) rfl (fun M29 p30 => ?_)
            have z62 : ((enS by_ n ap) ≤ (stS by_ n (enS by_ n ap)) ∧ (stS by_ n (enS by_ n ap)) ≤ n ∧ (stS by_ n (enS by_ n ap)) ≤ (enS by_ n (enS by_ n ap)) ∧ (enS by_ n (enS by_ n ap)) ≤ n) ∧ 0 ≤ (tyS by_ n (enS by_ n ap)) ∧ (tyS by_ n (enS by_ n ap)) ≤ 4 := (by have h9 := en_rg (by_ := by_) (n := n) (a := (enS by_ n ap)) (by omega); exact ⟨⟨h9.1, h9.2.1, h9.2.2.1, h9.2.2.2.1⟩, h9.2.2.2.2.2⟩)
            have z63 : 0 ≤ (srt (tyS by_ n (enS by_ n ap))) ∧ (srt (tyS by_ n (enS by_ n ap))) ≤ 4 := (srt_f (by omega)).1
            have hUM29 : InU M29 O by_ := fun i h0 h1 => by rw [p30.2.2.2.2.2 _ (by omega)]; exact hU8 i h0 h1
            have hRM29 : RepR M29 O q s := RepR.fr hR8 ⟨p30.2.2.2.2.1 29 (by decide) (by decide) (by decide) (by decide), p30.2.2.2.2.1 30 (by decide) (by decide) (by decide) (by decide)⟩ (fun a h1 h2 => p30.2.2.2.2.2 a (by omega))
            refine ok_vret i175_11 rt175 <| kt_0 (pc' := 95) rfl <| ok_iinc (pc' := 98) (v := (i + 1)) (ls' := [aR O, aI (i + 1), aI (vaS by_ n ap)]) i183_95 rfl rfl rfl rfl <| ok_goto (pc' := 25) i183_98 rfl <| ?_
            have ht1 : tyS by_ n ap = 1 := (srt_f (ty := tyS by_ n ap) (by omega)).2.1.mp (by omega)
            have hd := dg_1 ht1
            have n3 := nu_3 (by_ := by_) (n := n) (lo := 1) (hi := 200) (a := ap) (by omega) (by omega) (by omega)
            obtain ⟨x1, x2, x3⟩ := Agr_ext (l := vaS by_ n ap) hA9 (by omega) (show 0 ≤ i ∧ i < 6 by omega)
            have hq2 : qp (10 + (qp 1 - 1)) < 6 := by rw [hA9.2.1, show 10 + (q 1 + 1 - 1) = 10 + q 1 by omega, hA9.2.2]; omega
            refine ih (i + 1, enS by_ n ap, extP qp (vaS by_ n ap)) _ _ (by dsimp only; omega) ⟨by dsimp only; omega, by dsimp only; omega, ⟨p30.1, p30.2.1, p30.2.2.1, p30.2.2.2.1⟩, ((p30.2.2.2.2.1 17 (by decide) (by decide) (by decide) (by decide)).trans ((congrFun (hC8 O (by omega)) 17).trans h917)), ((p30.2.2.2.2.1 22 (by decide) (by decide) (by decide) (by decide)).trans ((congrFun (hC8 O (by omega)) 22).trans h922)), hRM29, ?_, x1, VQ_ext hQ9 (by have := hA9.2.1; omega) hq2 (by omega), fun y hy => (p30.2.2.2.2.1 y (by omega) (by omega) (by omega) (by omega)).trans (((congrFun (hC8 O (by omega)) y)).trans (hYl9 y hy)), fun y hy => (p30.2.2.2.2.1 y (by omega) (by omega) (by omega) (by omega)).trans (((congrFun (hC8 O (by omega)) y)).trans (hYh9 y hy)), fun c h1 h2 => (p30.2.2.2.2.2 c (by omega)).trans ((hC8 c (by omega)).trans (hC9 c h1 h2)), ?_, aI _, rfl, rfl⟩
            · intro j g0 g1
              dsimp only at *
              rw [p30.2.2.2.2.2 _ (by omega), hM8]
              by_cases hj : j = i
              · rw [hj, x2]; exact rd_eq
              · rw [x3 j g0 (by omega), up2_rd, if_neg (by omega)]; exact hP9 j g0 (by omega)
            · rw [← hR]; dsimp only; rw [show (6 - i).toNat = (6 - (i + 1)).toNat + 1 by omega, ptnN, if_neg (by omega), nuS.2, if_neg (by omega), tokS.1, tokS.2.2]
          · refine ok_iconst (pc' := 61) i183_60 rfl <| ok_goto (pc' := 65) i183_61 rfl <| ok_iconst (pc' := 66) i183_65 rfl <| ok_cc i183_66 rfl (cl_v o183 m9_133 na173 rfl rfl (bt rfl) (bt rfl) rfl (by rw [ShModel_k0 hSO, o173])) ln173 (pd173 (aR O) (aI 1) (aI 4)) <| ok_iloadn (pc' := 1) i173_0 rfl rfl <| ok_kz0 (pc1 := 9) (pc2 := 4) i173_1 (by decide) rfl rfl <| ok_aloadn (pc' := 5) i173_4 rfl rfl <| ok_iloadn (pc' := 6) i173_5 rfl rfl <| ?_
            refine ok_cc i173_6 rfl (cl_v o173 m9_112 na174 rfl rfl (bt rfl) (bt rfl) rfl (by rw [ShModel_k0 hSO, o174])) ln174 (pd174 (aR O) (aI 4)) <| ok_aloadn (pc' := 1) i174_0 rfl rfl <| ok_getfi (v := 0) (pc' := 4) i174_1 o174 gi9_106 (ShModel_k0 hSO) h922 rfl <| ok_kz0 (pc1 := 20) (pc2 := 7) i174_4 (by decide) rfl rfl <| ok_aloadn (pc' := 8) i174_7 rfl rfl <| ok_iloadn (pc' := 9) i174_8 rfl rfl <| ok_putfj (kk := 22) (pc' := 12) i174_9 o174 pi174_106 (ShModel_k0 hSO) rfl rfl <| ok_aloadn (pc' := 13) i174_12 rfl rfl <| ?_
            refine ok_aloadn (pc' := 14) i174_13 rfl rfl <| ok_getfi (v := (stS by_ n ap)) (pc' := 17) i174_14 o174 gi9_90 (ShModel_k0 hSO) (rd_ni (by decide) hT9.2.1) rfl <| ok_putfj (kk := 23) (pc' := 20) i174_17 o174 pi174_109 (ShModel_k0 hSO) rfl rfl <| ok_vret i174_20 rt174 <| kt_0 (pc' := 9) rfl <| ok_vret i173_9 rt173 <| kt_0 (pc' := 69) rfl <| ok_aloadn (pc' := 70) i183_69 rfl rfl <| ?_
            refine ok_getfi (v := 4) (pc' := 73) i183_70 o183 gi9_106 (ShModel_k0 hSO) (rd_ni (by decide) rd_eq) rfl <| ok_kz1 (pc1 := 91) (pc2 := 76) i183_73 (by decide) rfl rfl <| ok_aloadn (pc' := 92) i183_91 rfl rfl <| ok_cc i183_92 rfl (cl_v o183 m9_137 na175 rfl rfl (bt rfl) (bt rfl) rfl (by rw [ShModel_k0 hSO, o175])) ln175 (pd175 (aR O)) <| ok_aloadn (pc' := 1) i175_0 rfl rfl <| ok_getfi (v := 4) (pc' := 4) i175_1 o175 gi9_106 (ShModel_k0 hSO) (rd_ni (by decide) rd_eq) rfl <| ok_kz1 (pc1 := 11) (pc2 := 7) i175_4 (by decide) rfl rfl <| ok_vret i175_11 rt175 <| ?_
            refine kt_0 (pc' := 95) rfl <| ok_iinc (pc' := 98) (v := (i + 1)) (ls' := [aR O, aI (i + 1), aI (vaS by_ n ap)]) i183_95 rfl rfl rfl rfl <| ok_goto (pc' := 25) i183_98 rfl <| ?_
            have ht1 : tyS by_ n ap = 1 := (srt_f (ty := tyS by_ n ap) (by omega)).2.1.mp (by omega)
            have hd := dg_1 ht1
            refine (w183_25b (c := 4) (x1 := (i + 1)) (M := (up2 (up2 M9 O 22 4) O 23 (stS by_ n ap))) hSO (RepR.fr hR9 ⟨by rw [up2_rd, if_neg (by omega), up2_rd, if_neg (by omega)], by rw [up2_rd, if_neg (by omega), up2_rd, if_neg (by omega)]⟩ (fun a h1 h2 => by rw [up2_na (by omega), up2_na (by omega)])) hQ (rd_ni (by decide) rd_eq) (by omega) (by omega)).mono (fun o g1 M1 h => ?_)
            obtain ⟨q1, q2, rfl⟩ := h
            have e : ptnL by_ n q s w0 a = .inl (4, (stS by_ n ap)) := by have n3 := nu_3 (by_ := by_) (n := n) (lo := 1) (hi := 200) (a := ap) (by omega) (by omega) (by omega); rw [← hR, show (6 - i).toNat = 0 by omega, ptnN, if_neg (by omega), nuS.2, if_neg (by omega), stS_S]
            exact ⟨q1, q2, Or.inl (by rw [e]; exact ⟨(rd_ni (by decide) rd_eq), rd_eq, (show (1 : Int) ≤ 4 by decide), (show (4 : Int) ≤ 4 by decide)⟩), fun y hy => by rw [up2_rd, if_neg (by omega), up2_rd, if_neg (by omega)]; exact hYl9 y hy, fun y hy => by rw [up2_rd, if_neg (by omega), up2_rd, if_neg (by omega)]; exact hYh9 y hy, fun c h1 h2 => by rw [up2_na (by omega), up2_na (by omega)]; exact hC9 c h1 h2⟩
  · obtain ⟨i1, i2, i3, i4, i5, i6, i7, i8, i9, i10, i11, i12, i13⟩ := hI
    exact ⟨i1, i2, i3, i4, i5, i6, i7, i8, i9, i10, i11, i12, i13, w2, hw2, rfl⟩
