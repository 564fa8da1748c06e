/-! COPIES (by program, wip/gen) -/
/-- i arrays behind each other, n numbers of each, are copied -/
def cpyM (M : AM) (d a i : Nat) (n : Int) : AM := fun c y => if d ≤ c ∧ c < d + i ∧ 0 ≤ y ∧ y < n then M (a + (c - d)) y else M c y
theorem cpy_0 {M : AM} {d a : Nat} {n : Int} : cpyM M d a 0 n = M := by
  funext c y
  unfold cpyM
  rw [if_neg (by omega)]
theorem cpy_step {M : AM} {d a i k : Nat} {n : Int} (hi : i < k) (hd : d + k ≤ a ∨ a + k ≤ d) : upM (cpyM M d a i n) (d + i) (am_cpy (cpyM M d a i n (a + i)) (cpyM M d a i n (d + i)) 0 0 n) = cpyM M d a (i + 1) n := by
  funext c y
  unfold upM
  by_cases hc : c = d + i
  · rw [if_pos hc]
    subst hc
    unfold am_cpy cpyM
    have e : d + i - d = i := by omega
    rw [e]
    by_cases hy : 0 ≤ y ∧ y < n
    · rw [if_pos (by omega), if_neg (by omega), if_pos (by omega), show (0 : Int) + (y - 0) = y by omega]
    · rw [if_neg (by omega), if_neg (by omega), if_neg (by omega)]
  · rw [if_neg hc]
    unfold cpyM
    by_cases hy : d ≤ c ∧ c < d + i ∧ 0 ≤ y ∧ y < n
    · rw [if_pos hy, if_pos (by omega)]
    · rw [if_neg hy, if_neg (by omega)]
theorem cpy_na {M : AM} {d a i : Nat} {n : Int} {c : Nat} {y : Int} (h : c < d ∨ d + i ≤ c) : cpyM M d a i n c y = M c y := by
  unfold cpyM
  rw [if_neg (by omega)]
theorem cpy_at {M : AM} {d a i : Nat} {n : Int} {w : Nat} {y : Int} (h : w < i) (h0 : 0 ≤ y) (h1 : y < n) : cpyM M d a i n (d + w) y = M (a + w) y := by
  unfold cpyM
  rw [if_pos (by omega), show d + w - d = w by omega]
theorem cpa_at {M : AM} {a a0 : Nat} {n y : Int} (h0 : 0 ≤ y) (h1 : y < n) : upM M a (am_cpy (M a0) (M a) 0 0 n) a y = M a0 y := by
  unfold upM am_cpy
  rw [if_pos rfl, if_pos (by omega), show (0 : Int) + (y - 0) = y by omega]
theorem cpa_na {M : AM} {a b : Nat} {f : Int → Int} {y : Int} (h : b ≠ a) : upM M a f b y = M b y := by
  unfold upM
  rw [if_neg h]
theorem o17 : am_oc 17 = 5 := by decide +kernel
theorem m5_45 : am_mlk 5 45 4 0 = true := by decide +kernel
theorem pi17_32 : am_pfi 17 5 32 5 0 = true := by decide +kernel
theorem pi17_36 : am_pfi 17 5 36 5 2 = true := by decide +kernel
theorem pi17_39 : am_pfi 17 5 39 5 4 = true := by decide +kernel
theorem pi17_42 : am_pfi 17 5 42 5 7 = true := by decide +kernel
theorem gr5_9 : am_gfr 5 9 5 1 = true := by decide +kernel
theorem gr5_29 : am_gfr 5 29 5 9 = true := by decide +kernel
theorem rt17 : am_rt 17 = none := by decide +kernel
theorem w17_79 {d : Nat} {Q : AO → AG → AM → Prop} {g : AG} {M : AM} {B A : Nat} {n : Int} (hSB : ShState g B) (hSA : ShState g A) (hBA : A + 24 ≤ B ∨ B + 24 ≤ A) (hn : 0 ≤ n ∧ n ≤ 80) (hn8 : M B 2 = n) (K : ∀ M1, M1 = cpyM M (B + 3) (A + 3) 5 n → ∀ ls, ls = [aR B, aR A, aI 5] → Ok (d + 0) 17 111 ls [] g M1 Q) :
    Ok (d + 0) 17 79 [aR B, aR A, aI 0] [] g M Q := by
  refine ok_for (σ := Unit) (lo := 0) (n := 5) (f := fun _ a => a) (a0 := ()) (fun x2 _ ls M9 => M9 = cpyM M (B + 3) (A + 3) x2.toNat n ∧ ls = [aR B, aR A, aI x2]) ?_ ?_ _ _ ⟨cpy_0.symm, rfl⟩
  · rintro x2 _ ls M9 g1 g2 ⟨hM, rfl⟩ ih
    have g3 : x2 < 5 := by omega
    have hn9 : M9 B 2 = n := by rw [hM, cpy_na (by omega)]; exact hn8
    refine ok_iloadn (pc' := 80) i17_79 rfl rfl <| ok_iconst (pc' := 81) i17_80 rfl <| ?_
    refine ok_cge (pc1 := 111) (pc2 := 84) i17_81 (by omega) rfl rfl (fun h9 => by exfalso; omega) (fun h1 => ?_)
    refine ok_aloadn (pc' := 85) i17_84 rfl rfl <| ok_getfr (r := (A + 2)) (pc' := 88) i17_85 o17 gr5_17 (ShState_k0 hSA) (ShState_r3 hSA) rfl <| ok_iloadn (pc' := 89) i17_88 rfl rfl <| ok_aaload (r := (A + 3 + x2.toNat)) (pc' := 90) i17_89 (ShState_k2 hSA) (by decide) (ShState_l2 hSA) (by omega) (ShState_ev2 hSA (by omega) (by omega)) rfl <| ok_iconst (pc' := 91) i17_90 rfl <| ok_aloadn (pc' := 92) i17_91 rfl rfl <| ok_getfr (r := (B + 2)) (pc' := 95) i17_92 o17 gr5_17 (ShState_k0 hSB) (ShState_r3 hSB) rfl <| ok_iloadn (pc' := 96) i17_95 rfl rfl <| ?_
    refine ok_aaload (r := (B + 3 + x2.toNat)) (pc' := 97) i17_96 (ShState_k2 hSB) (by decide) (ShState_l2 hSB) (by omega) (ShState_ev2 hSB (by omega) (by omega)) rfl <| ok_iconst (pc' := 98) i17_97 rfl <| ok_aloadn (pc' := 99) i17_98 rfl rfl <| ok_getfi (v := n) (pc' := 102) i17_99 o17 gi5_36 (ShState_k0 hSB) hn9 rfl <| ok_acopy (pc' := 105) i17_102 o17 m5_45 (ShState_kv2 hSB (by omega) (by omega)) (ShState_kv2 hSA (by omega) (by omega)) (ShState_lv2 hSB (by omega) (by omega)) (ShState_lv2 hSA (by omega) (by omega)) (by omega) (bt rfl) rfl <| ok_iinc (pc' := 108) (v := (x2 + 1)) (ls' := [aR B, aR A, aI (x2 + 1)]) i17_105 rfl rfl rfl rfl <| ok_goto (pc' := 79) i17_108 rfl <| ?_
    exact ih _ _ ⟨by rw [hM, show (x2 + 1).toNat = x2.toNat + 1 by omega]; exact cpy_step (k := 5) (by omega) (by omega), rfl⟩
  · rintro x2 _ ls M9 g1 g2 ⟨hM, rfl⟩
    have g3 : x2 = 5 := by omega
    have hn9 : M9 B 2 = n := by rw [hM, cpy_na (by omega)]; exact hn8
    refine ok_iloadn (pc' := 80) i17_79 rfl rfl <| ok_iconst (pc' := 81) i17_80 rfl <| ?_
    refine ok_cge (pc1 := 111) (pc2 := 84) i17_81 (by omega) rfl rfl (fun h1 => ?_) (fun h9 => by exfalso; omega)
    exact K _ (by rw [hM, show x2.toNat = 5 by omega]) _ (by rw [g3])
theorem w17_113 {d : Nat} {Q : AO → AG → AM → Prop} {g : AG} {M : AM} {B A : Nat} {n : Int} (hSB : ShState g B) (hSA : ShState g A) (hBA : A + 24 ≤ B ∨ B + 24 ≤ A) (hn : 0 ≤ n ∧ n ≤ 16) (hn8 : M B 4 = n) (K : ∀ M1, M1 = cpyM M (B + 9) (A + 9) 8 n → ∀ ls, ls = [aR B, aR A, aI 8] → Ok (d + 0) 17 146 ls [] g M1 Q) :
    Ok (d + 0) 17 113 [aR B, aR A, aI 0] [] g M Q := by
  refine ok_for (σ := Unit) (lo := 0) (n := 8) (f := fun _ a => a) (a0 := ()) (fun x2 _ ls M9 => M9 = cpyM M (B + 9) (A + 9) x2.toNat n ∧ ls = [aR B, aR A, aI x2]) ?_ ?_ _ _ ⟨cpy_0.symm, rfl⟩
  · rintro x2 _ ls M9 g1 g2 ⟨hM, rfl⟩ ih
    have g3 : x2 < 8 := by omega
    have hn9 : M9 B 4 = n := by rw [hM, cpy_na (by omega)]; exact hn8
    refine ok_iloadn (pc' := 114) i17_113 rfl rfl <| ok_bipush (v := 8) (pc' := 116) i17_114 rfl rfl <| ?_
    refine ok_cge (pc1 := 146) (pc2 := 119) i17_116 (by omega) rfl rfl (fun h9 => by exfalso; omega) (fun h1 => ?_)
    refine ok_aloadn (pc' := 120) i17_119 rfl rfl <| ok_getfr (r := (A + 8)) (pc' := 123) i17_120 o17 gr5_20 (ShState_k0 hSA) (ShState_r5 hSA) rfl <| ok_iloadn (pc' := 124) i17_123 rfl rfl <| ok_aaload (r := (A + 9 + x2.toNat)) (pc' := 125) i17_124 (ShState_k8 hSA) (by decide) (ShState_l8 hSA) (by omega) (ShState_ev8 hSA (by omega) (by omega)) rfl <| ok_iconst (pc' := 126) i17_125 rfl <| ok_aloadn (pc' := 127) i17_126 rfl rfl <| ok_getfr (r := (B + 8)) (pc' := 130) i17_127 o17 gr5_20 (ShState_k0 hSB) (ShState_r5 hSB) rfl <| ok_iloadn (pc' := 131) i17_130 rfl rfl <| ?_
    refine ok_aaload (r := (B + 9 + x2.toNat)) (pc' := 132) i17_131 (ShState_k8 hSB) (by decide) (ShState_l8 hSB) (by omega) (ShState_ev8 hSB (by omega) (by omega)) rfl <| ok_iconst (pc' := 133) i17_132 rfl <| ok_aloadn (pc' := 134) i17_133 rfl rfl <| ok_getfi (v := n) (pc' := 137) i17_134 o17 gi5_39 (ShState_k0 hSB) hn9 rfl <| ok_acopy (pc' := 140) i17_137 o17 m5_45 (ShState_kv8 hSB (by omega) (by omega)) (ShState_kv8 hSA (by omega) (by omega)) (ShState_lv8 hSB (by omega) (by omega)) (ShState_lv8 hSA (by omega) (by omega)) (by omega) (bt rfl) rfl <| ok_iinc (pc' := 143) (v := (x2 + 1)) (ls' := [aR B, aR A, aI (x2 + 1)]) i17_140 rfl rfl rfl rfl <| ok_goto (pc' := 113) i17_143 rfl <| ?_
    exact ih _ _ ⟨by rw [hM, show (x2 + 1).toNat = x2.toNat + 1 by omega]; exact cpy_step (k := 8) (by omega) (by omega), rfl⟩
  · rintro x2 _ ls M9 g1 g2 ⟨hM, rfl⟩
    have g3 : x2 = 8 := by omega
    have hn9 : M9 B 4 = n := by rw [hM, cpy_na (by omega)]; exact hn8
    refine ok_iloadn (pc' := 114) i17_113 rfl rfl <| ok_bipush (v := 8) (pc' := 116) i17_114 rfl rfl <| ?_
    refine ok_cge (pc1 := 146) (pc2 := 119) i17_116 (by omega) rfl rfl (fun h1 => ?_) (fun h9 => by exfalso; omega)
    exact K _ (by rw [hM, show x2.toNat = 8 by omega]) _ (by rw [g3])
theorem w17_148 {d : Nat} {Q : AO → AG → AM → Prop} {g : AG} {M : AM} {B A : Nat} {n : Int} (hSB : ShState g B) (hSA : ShState g A) (hBA : A + 24 ≤ B ∨ B + 24 ≤ A) (hn : 0 ≤ n ∧ n ≤ 60) (hn8 : M B 7 = n) (K : ∀ M1, M1 = cpyM M (B + 19) (A + 19) 4 n → ∀ ls, ls = [aR B, aR A, aI 4] → Ok (d + 0) 17 180 ls [] g M1 Q) :
    Ok (d + 0) 17 148 [aR B, aR A, aI 0] [] g M Q := by
  refine ok_for (σ := Unit) (lo := 0) (n := 4) (f := fun _ a => a) (a0 := ()) (fun x2 _ ls M9 => M9 = cpyM M (B + 19) (A + 19) x2.toNat n ∧ ls = [aR B, aR A, aI x2]) ?_ ?_ _ _ ⟨cpy_0.symm, rfl⟩
  · rintro x2 _ ls M9 g1 g2 ⟨hM, rfl⟩ ih
    have g3 : x2 < 4 := by omega
    have hn9 : M9 B 7 = n := by rw [hM, cpy_na (by omega)]; exact hn8
    refine ok_iloadn (pc' := 149) i17_148 rfl rfl <| ok_iconst (pc' := 150) i17_149 rfl <| ?_
    refine ok_cge (pc1 := 180) (pc2 := 153) i17_150 (by omega) rfl rfl (fun h9 => by exfalso; omega) (fun h1 => ?_)
    refine ok_aloadn (pc' := 154) i17_153 rfl rfl <| ok_getfr (r := (A + 18)) (pc' := 157) i17_154 o17 gr5_26 (ShState_k0 hSA) (ShState_r8 hSA) rfl <| ok_iloadn (pc' := 158) i17_157 rfl rfl <| ok_aaload (r := (A + 19 + x2.toNat)) (pc' := 159) i17_158 (ShState_k18 hSA) (by decide) (ShState_l18 hSA) (by omega) (ShState_ev18 hSA (by omega) (by omega)) rfl <| ok_iconst (pc' := 160) i17_159 rfl <| ok_aloadn (pc' := 161) i17_160 rfl rfl <| ok_getfr (r := (B + 18)) (pc' := 164) i17_161 o17 gr5_26 (ShState_k0 hSB) (ShState_r8 hSB) rfl <| ok_iloadn (pc' := 165) i17_164 rfl rfl <| ?_
    refine ok_aaload (r := (B + 19 + x2.toNat)) (pc' := 166) i17_165 (ShState_k18 hSB) (by decide) (ShState_l18 hSB) (by omega) (ShState_ev18 hSB (by omega) (by omega)) rfl <| ok_iconst (pc' := 167) i17_166 rfl <| ok_aloadn (pc' := 168) i17_167 rfl rfl <| ok_getfi (v := n) (pc' := 171) i17_168 o17 gi5_42 (ShState_k0 hSB) hn9 rfl <| ok_acopy (pc' := 174) i17_171 o17 m5_45 (ShState_kv18 hSB (by omega) (by omega)) (ShState_kv18 hSA (by omega) (by omega)) (ShState_lv18 hSB (by omega) (by omega)) (ShState_lv18 hSA (by omega) (by omega)) (by omega) (bt rfl) rfl <| ok_iinc (pc' := 177) (v := (x2 + 1)) (ls' := [aR B, aR A, aI (x2 + 1)]) i17_174 rfl rfl rfl rfl <| ok_goto (pc' := 148) i17_177 rfl <| ?_
    exact ih _ _ ⟨by rw [hM, show (x2 + 1).toNat = x2.toNat + 1 by omega]; exact cpy_step (k := 4) (by omega) (by omega), rfl⟩
  · rintro x2 _ ls M9 g1 g2 ⟨hM, rfl⟩
    have g3 : x2 = 4 := by omega
    have hn9 : M9 B 7 = n := by rw [hM, cpy_na (by omega)]; exact hn8
    refine ok_iloadn (pc' := 149) i17_148 rfl rfl <| ok_iconst (pc' := 150) i17_149 rfl <| ?_
    refine ok_cge (pc1 := 180) (pc2 := 153) i17_150 (by omega) rfl rfl (fun h1 => ?_) (fun h9 => by exfalso; omega)
    exact K _ (by rw [hM, show x2.toNat = 4 by omega]) _ (by rw [g3])
theorem E5_rd {M M5 : AM} {B A : Nat} {s : Int → Int} (hBA : A + 24 ≤ B ∨ B + 24 ≤ A) (hM5 : M5 = (upM (upM (upM (up2 (up2 (up2 (up2 M B 0 (s 0)) B 2 (s 3)) B 4 (s 4)) B 7 (s 5)) (B + 1) (am_cpy ((up2 (up2 (up2 (up2 M B 0 (s 0)) B 2 (s 3)) B 4 (s 4)) B 7 (s 5)) (A + 1)) ((up2 (up2 (up2 (up2 M B 0 (s 0)) B 2 (s 3)) B 4 (s 4)) B 7 (s 5)) (B + 1)) 0 0 2)) (B + 17) (am_cpy ((upM (up2 (up2 (up2 (up2 M B 0 (s 0)) B 2 (s 3)) B 4 (s 4)) B 7 (s 5)) (B + 1) (am_cpy ((up2 (up2 (up2 (up2 M B 0 (s 0)) B 2 (s 3)) B 4 (s 4)) B 7 (s 5)) (A + 1)) ((up2 (up2 (up2 (up2 M B 0 (s 0)) B 2 (s 3)) B 4 (s 4)) B 7 (s 5)) (B + 1)) 0 0 2)) (A + 17)) ((upM (up2 (up2 (up2 (up2 M B 0 (s 0)) B 2 (s 3)) B 4 (s 4)) B 7 (s 5)) (B + 1) (am_cpy ((up2 (up2 (up2 (up2 M B 0 (s 0)) B 2 (s 3)) B 4 (s 4)) B 7 (s 5)) (A + 1)) ((up2 (up2 (up2 (up2 M B 0 (s 0)) B 2 (s 3)) B 4 (s 4)) B 7 (s 5)) (B + 1)) 0 0 2)) (B + 17)) 0 0 201)) (B + 23) (am_cpy ((upM (upM (up2 (up2 (up2 (up2 M B 0 (s 0)) B 2 (s 3)) B 4 (s 4)) B 7 (s 5)) (B + 1) (am_cpy ((up2 (up2 (up2 (up2 M B 0 (s 0)) B 2 (s 3)) B 4 (s 4)) B 7 (s 5)) (A + 1)) ((up2 (up2 (up2 (up2 M B 0 (s 0)) B 2 (s 3)) B 4 (s 4)) B 7 (s 5)) (B + 1)) 0 0 2)) (B + 17) (am_cpy ((upM (up2 (up2 (up2 (up2 M B 0 (s 0)) B 2 (s 3)) B 4 (s 4)) B 7 (s 5)) (B + 1) (am_cpy ((up2 (up2 (up2 (up2 M B 0 (s 0)) B 2 (s 3)) B 4 (s 4)) B 7 (s 5)) (A + 1)) ((up2 (up2 (up2 (up2 M B 0 (s 0)) B 2 (s 3)) B 4 (s 4)) B 7 (s 5)) (B + 1)) 0 0 2)) (A + 17)) ((upM (up2 (up2 (up2 (up2 M B 0 (s 0)) B 2 (s 3)) B 4 (s 4)) B 7 (s 5)) (B + 1) (am_cpy ((up2 (up2 (up2 (up2 M B 0 (s 0)) B 2 (s 3)) B 4 (s 4)) B 7 (s 5)) (A + 1)) ((up2 (up2 (up2 (up2 M B 0 (s 0)) B 2 (s 3)) B 4 (s 4)) B 7 (s 5)) (B + 1)) 0 0 2)) (B + 17)) 0 0 201)) (A + 23)) ((upM (upM (up2 (up2 (up2 (up2 M B 0 (s 0)) B 2 (s 3)) B 4 (s 4)) B 7 (s 5)) (B + 1) (am_cpy ((up2 (up2 (up2 (up2 M B 0 (s 0)) B 2 (s 3)) B 4 (s 4)) B 7 (s 5)) (A + 1)) ((up2 (up2 (up2 (up2 M B 0 (s 0)) B 2 (s 3)) B 4 (s 4)) B 7 (s 5)) (B + 1)) 0 0 2)) (B + 17) (am_cpy ((upM (up2 (up2 (up2 (up2 M B 0 (s 0)) B 2 (s 3)) B 4 (s 4)) B 7 (s 5)) (B + 1) (am_cpy ((up2 (up2 (up2 (up2 M B 0 (s 0)) B 2 (s 3)) B 4 (s 4)) B 7 (s 5)) (A + 1)) ((up2 (up2 (up2 (up2 M B 0 (s 0)) B 2 (s 3)) B 4 (s 4)) B 7 (s 5)) (B + 1)) 0 0 2)) (A + 17)) ((upM (up2 (up2 (up2 (up2 M B 0 (s 0)) B 2 (s 3)) B 4 (s 4)) B 7 (s 5)) (B + 1) (am_cpy ((up2 (up2 (up2 (up2 M B 0 (s 0)) B 2 (s 3)) B 4 (s 4)) B 7 (s 5)) (A + 1)) ((up2 (up2 (up2 (up2 M B 0 (s 0)) B 2 (s 3)) B 4 (s 4)) B 7 (s 5)) (B + 1)) 0 0 2)) (B + 17)) 0 0 201)) (B + 23)) 0 0 8))) : (M5 B 0 = s 0 ∧ M5 B 2 = s 3 ∧ M5 B 4 = s 4 ∧ M5 B 7 = s 5) ∧ (∀ i : Int, 0 ≤ i → i < 2 → M5 (B + 1) i = M (A + 1) i) ∧ (∀ i : Int, 0 ≤ i → i < 201 → M5 (B + 17) i = M (A + 17) i) ∧ (∀ i : Int, 0 ≤ i → i < 8 → M5 (B + 23) i = M (A + 23) i) ∧ ∀ (c : Nat) (y : Int), c ≠ B ∧ c ≠ B + 1 ∧ c ≠ B + 17 ∧ c ≠ B + 23 → M5 c y = M c y := by
  subst hM5
  refine ⟨⟨?_, ?_, ?_, ?_⟩, fun i h0 h1 => ?_, fun i h0 h1 => ?_, fun i h0 h1 => ?_, fun c y hc => ?_⟩
  · rw [cpa_na (by omega), cpa_na (by omega), cpa_na (by omega)]; simp only [up2_rd]; simp
  · rw [cpa_na (by omega), cpa_na (by omega), cpa_na (by omega)]; simp only [up2_rd]; simp
  · rw [cpa_na (by omega), cpa_na (by omega), cpa_na (by omega)]; simp only [up2_rd]; simp
  · rw [cpa_na (by omega), cpa_na (by omega), cpa_na (by omega)]; simp only [up2_rd]; simp
  · rw [cpa_na (by omega), cpa_na (by omega), cpa_at h0 h1]; simp only [up2_rd]; rw [if_neg (by omega), if_neg (by omega), if_neg (by omega), if_neg (by omega)]
  · rw [cpa_na (by omega), cpa_at h0 h1, cpa_na (by omega)]; simp only [up2_rd]; rw [if_neg (by omega), if_neg (by omega), if_neg (by omega), if_neg (by omega)]
  · rw [cpa_at h0 h1, cpa_na (by omega), cpa_na (by omega)]; simp only [up2_rd]; rw [if_neg (by omega), if_neg (by omega), if_neg (by omega), if_neg (by omega)]
  · rw [cpa_na (by omega), cpa_na (by omega), cpa_na (by omega)]; simp only [up2_rd]; rw [if_neg (by omega), if_neg (by omega), if_neg (by omega), if_neg (by omega)]
theorem RepS_copy {b : Int} {q s : Int → Int} {M M5 M1 M2 M3 : AM} {B A : Nat} (h : RepS M A s) (hV : Val b q s) (hBA : A + 24 ≤ B ∨ B + 24 ≤ A) (hM5 : M5 = (upM (upM (upM (up2 (up2 (up2 (up2 M B 0 (s 0)) B 2 (s 3)) B 4 (s 4)) B 7 (s 5)) (B + 1) (am_cpy ((up2 (up2 (up2 (up2 M B 0 (s 0)) B 2 (s 3)) B 4 (s 4)) B 7 (s 5)) (A + 1)) ((up2 (up2 (up2 (up2 M B 0 (s 0)) B 2 (s 3)) B 4 (s 4)) B 7 (s 5)) (B + 1)) 0 0 2)) (B + 17) (am_cpy ((upM (up2 (up2 (up2 (up2 M B 0 (s 0)) B 2 (s 3)) B 4 (s 4)) B 7 (s 5)) (B + 1) (am_cpy ((up2 (up2 (up2 (up2 M B 0 (s 0)) B 2 (s 3)) B 4 (s 4)) B 7 (s 5)) (A + 1)) ((up2 (up2 (up2 (up2 M B 0 (s 0)) B 2 (s 3)) B 4 (s 4)) B 7 (s 5)) (B + 1)) 0 0 2)) (A + 17)) ((upM (up2 (up2 (up2 (up2 M B 0 (s 0)) B 2 (s 3)) B 4 (s 4)) B 7 (s 5)) (B + 1) (am_cpy ((up2 (up2 (up2 (up2 M B 0 (s 0)) B 2 (s 3)) B 4 (s 4)) B 7 (s 5)) (A + 1)) ((up2 (up2 (up2 (up2 M B 0 (s 0)) B 2 (s 3)) B 4 (s 4)) B 7 (s 5)) (B + 1)) 0 0 2)) (B + 17)) 0 0 201)) (B + 23) (am_cpy ((upM (upM (up2 (up2 (up2 (up2 M B 0 (s 0)) B 2 (s 3)) B 4 (s 4)) B 7 (s 5)) (B + 1) (am_cpy ((up2 (up2 (up2 (up2 M B 0 (s 0)) B 2 (s 3)) B 4 (s 4)) B 7 (s 5)) (A + 1)) ((up2 (up2 (up2 (up2 M B 0 (s 0)) B 2 (s 3)) B 4 (s 4)) B 7 (s 5)) (B + 1)) 0 0 2)) (B + 17) (am_cpy ((upM (up2 (up2 (up2 (up2 M B 0 (s 0)) B 2 (s 3)) B 4 (s 4)) B 7 (s 5)) (B + 1) (am_cpy ((up2 (up2 (up2 (up2 M B 0 (s 0)) B 2 (s 3)) B 4 (s 4)) B 7 (s 5)) (A + 1)) ((up2 (up2 (up2 (up2 M B 0 (s 0)) B 2 (s 3)) B 4 (s 4)) B 7 (s 5)) (B + 1)) 0 0 2)) (A + 17)) ((upM (up2 (up2 (up2 (up2 M B 0 (s 0)) B 2 (s 3)) B 4 (s 4)) B 7 (s 5)) (B + 1) (am_cpy ((up2 (up2 (up2 (up2 M B 0 (s 0)) B 2 (s 3)) B 4 (s 4)) B 7 (s 5)) (A + 1)) ((up2 (up2 (up2 (up2 M B 0 (s 0)) B 2 (s 3)) B 4 (s 4)) B 7 (s 5)) (B + 1)) 0 0 2)) (B + 17)) 0 0 201)) (A + 23)) ((upM (upM (up2 (up2 (up2 (up2 M B 0 (s 0)) B 2 (s 3)) B 4 (s 4)) B 7 (s 5)) (B + 1) (am_cpy ((up2 (up2 (up2 (up2 M B 0 (s 0)) B 2 (s 3)) B 4 (s 4)) B 7 (s 5)) (A + 1)) ((up2 (up2 (up2 (up2 M B 0 (s 0)) B 2 (s 3)) B 4 (s 4)) B 7 (s 5)) (B + 1)) 0 0 2)) (B + 17) (am_cpy ((upM (up2 (up2 (up2 (up2 M B 0 (s 0)) B 2 (s 3)) B 4 (s 4)) B 7 (s 5)) (B + 1) (am_cpy ((up2 (up2 (up2 (up2 M B 0 (s 0)) B 2 (s 3)) B 4 (s 4)) B 7 (s 5)) (A + 1)) ((up2 (up2 (up2 (up2 M B 0 (s 0)) B 2 (s 3)) B 4 (s 4)) B 7 (s 5)) (B + 1)) 0 0 2)) (A + 17)) ((upM (up2 (up2 (up2 (up2 M B 0 (s 0)) B 2 (s 3)) B 4 (s 4)) B 7 (s 5)) (B + 1) (am_cpy ((up2 (up2 (up2 (up2 M B 0 (s 0)) B 2 (s 3)) B 4 (s 4)) B 7 (s 5)) (A + 1)) ((up2 (up2 (up2 (up2 M B 0 (s 0)) B 2 (s 3)) B 4 (s 4)) B 7 (s 5)) (B + 1)) 0 0 2)) (B + 17)) 0 0 201)) (B + 23)) 0 0 8))) (h1 : M1 = cpyM M5 (B + 3) (A + 3) 5 (s 3)) (h2 : M2 = cpyM M1 (B + 9) (A + 9) 8 (s 4)) (h3 : M3 = cpyM M2 (B + 19) (A + 19) 4 (s 5)) : RepS M3 B s ∧ Wr B 24 M M3 := by
  obtain ⟨⟨e0, e2, e4, e7⟩, ea, eb, ec, en⟩ := E5_rd hBA hM5
  have hn : ∀ (c : Nat) (y : Int), (c < B + 3 ∨ B + 24 ≤ c ∨ c = B + 8 ∨ c = B + 17 ∨ c = B + 18 ∨ c = B + 23) → M3 c y = M5 c y := fun c y hc => by
    rw [h3, cpy_na (by omega), h2, cpy_na (by omega), h1, cpy_na (by omega)]
  refine ⟨⟨by rw [hn _ _ (by omega)]; exact e0, by rw [hn _ _ (by omega)]; exact e2, by rw [hn _ _ (by omega)]; exact e4, by rw [hn _ _ (by omega)]; exact e7, fun i g0 g1 => ?_, fun i g0 g1 => ?_, fun i g0 g1 => ?_, fun w hw i g0 g1 => ?_, fun w hw i g0 g1 => ?_, fun w hw i g0 g1 => ?_⟩, fun c hc => funext fun y => ?_⟩
  · rw [hn _ _ (by omega), ea i g0 g1]; exact RepS_1 h g0 g1
  · rw [hn _ _ (by omega), ec i g0 g1]; exact RepS_23 h g0 g1
  · rw [hn _ _ (by omega), eb i g0 (by omega)]; exact RepS_17 h g0 g1
  · rw [h3, cpy_na (by omega), h2, cpy_na (by omega), h1, cpy_at hw g0 g1, en _ _ (by omega)]
    exact h.2.2.2.2.2.2.2.1 w hw i g0 g1
  · rw [h3, cpy_na (by omega), h2, cpy_at hw g0 g1, h1, cpy_na (by omega), en _ _ (by omega)]
    exact h.2.2.2.2.2.2.2.2.1 w hw i g0 g1
  · rw [h3, cpy_at hw g0 g1, h2, cpy_na (by omega), h1, cpy_na (by omega), en _ _ (by omega)]
    exact h.2.2.2.2.2.2.2.2.2 w hw i g0 g1
  · rw [hn _ _ (by omega), en _ _ (by omega)]

theorem t17 {g : AG} {M : AM} {B A : Nat} {s q : Int → Int} {b : Int} (hSB : ShState g B) (hSA : ShState g A) (hRA : RepS M A s) (hV : Val b q s) (hQ : ValQ q) (hBA : A + 24 ≤ B ∨ B + 24 ≤ A) :
    Ok 0 17 0 [aR B, aR A, aU] [] g M (Rt none g (fun M9 => RepS M9 B s ∧ Wr B 24 M M9)) := by
  have ys3 : 0 ≤ s 3 ∧ s 3 ≤ 80 := V_3 hV
  have ys4 : 0 ≤ s 4 ∧ s 4 ≤ 16 := V_4 hV
  have yq0 : 0 ≤ q 0 ∧ q 0 ≤ 4 := Q_0 hQ
  have yq1 : 0 ≤ q 1 ∧ q 1 ≤ 6 := Q_1 hQ
  have y5 := V_5 hV
  refine ok_aloadn (pc' := 1) i17_0 rfl rfl <| ok_aloadn (pc' := 2) i17_1 rfl rfl <| ?_
  have z1 : 0 ≤ s 0 ∧ s 0 ≤ 1000000 := V_0 hV
  refine ok_getfi (v := (s 0)) (pc' := 5) i17_2 o17 gi5_32 (ShState_k0 hSA) (RepS_f0 hRA) rfl <| ok_putfi (pc' := 8) i17_5 o17 pi17_32 (ShState_k0 hSB) rfl <| ok_aloadn (pc' := 9) i17_8 rfl rfl <| ok_aloadn (pc' := 10) i17_9 rfl rfl <| ok_getfi (v := (s 3)) (pc' := 13) i17_10 o17 gi5_36 (ShState_k0 hSA) (rd_na (by omega) (RepS_f2 hRA)) rfl <| ok_putfi (pc' := 16) i17_13 o17 pi17_36 (ShState_k0 hSB) rfl <| ok_aloadn (pc' := 17) i17_16 rfl rfl <| ok_aloadn (pc' := 18) i17_17 rfl rfl <| ?_
  refine ok_getfi (v := (s 4)) (pc' := 21) i17_18 o17 gi5_39 (ShState_k0 hSA) (rd_na (by omega) (rd_na (by omega) (RepS_f4 hRA))) rfl <| ok_putfi (pc' := 24) i17_21 o17 pi17_39 (ShState_k0 hSB) rfl <| ok_aloadn (pc' := 25) i17_24 rfl rfl <| ok_aloadn (pc' := 26) i17_25 rfl rfl <| ok_getfi (v := (s 5)) (pc' := 29) i17_26 o17 gi5_42 (ShState_k0 hSA) (rd_na (by omega) (rd_na (by omega) (rd_na (by omega) (RepS_f7 hRA)))) rfl <| ok_putfi (pc' := 32) i17_29 o17 pi17_42 (ShState_k0 hSB) rfl <| ok_aloadn (pc' := 33) i17_32 rfl rfl <| ok_getfr (r := (A + 1)) (pc' := 36) i17_33 o17 gr5_9 (ShState_k0 hSA) (ShState_r1 hSA) rfl <| ?_
  refine ok_iconst (pc' := 37) i17_36 rfl <| ok_aloadn (pc' := 38) i17_37 rfl rfl <| ok_getfr (r := (B + 1)) (pc' := 41) i17_38 o17 gr5_9 (ShState_k0 hSB) (ShState_r1 hSB) rfl <| ok_iconst (pc' := 42) i17_41 rfl <| ok_iconst (pc' := 43) i17_42 rfl <| ok_acopy (pc' := 46) i17_43 o17 m5_45 (ShState_k1 hSB) (ShState_k1 hSA) (ShState_l1 hSB) (ShState_l1 hSA) (by omega) (bt rfl) rfl <| ok_aloadn (pc' := 47) i17_46 rfl rfl <| ok_getfr (r := (A + 17)) (pc' := 50) i17_47 o17 gr5_23 (ShState_k0 hSA) (ShState_r6 hSA) rfl <| ?_
  refine ok_iconst (pc' := 51) i17_50 rfl <| ok_aloadn (pc' := 52) i17_51 rfl rfl <| ok_getfr (r := (B + 17)) (pc' := 55) i17_52 o17 gr5_23 (ShState_k0 hSB) (ShState_r6 hSB) rfl <| ok_iconst (pc' := 56) i17_55 rfl <| ok_sipush (v := 201) (pc' := 59) i17_56 rfl rfl <| ok_acopy (pc' := 62) i17_59 o17 m5_45 (ShState_k17 hSB) (ShState_k17 hSA) (ShState_l17 hSB) (ShState_l17 hSA) (by omega) (bt rfl) rfl <| ok_aloadn (pc' := 63) i17_62 rfl rfl <| ok_getfr (r := (A + 23)) (pc' := 66) i17_63 o17 gr5_29 (ShState_k0 hSA) (ShState_r9 hSA) rfl <| ?_
  refine ok_iconst (pc' := 67) i17_66 rfl <| ok_aloadn (pc' := 68) i17_67 rfl rfl <| ok_getfr (r := (B + 23)) (pc' := 71) i17_68 o17 gr5_29 (ShState_k0 hSB) (ShState_r9 hSB) rfl <| ok_iconst (pc' := 72) i17_71 rfl <| ok_bipush (v := 8) (pc' := 74) i17_72 rfl rfl <| ok_acopy (pc' := 77) i17_74 o17 m5_45 (ShState_k23 hSB) (ShState_k23 hSA) (ShState_l23 hSB) (ShState_l23 hSA) (by omega) (bt rfl) rfl <| ok_iconst (pc' := 78) i17_77 rfl <| ok_istoren (pc' := 79) (ls' := [aR B, aR A, aI 0]) i17_78 (bt rfl) rfl rfl <| ?_
  obtain ⟨M5, hM5⟩ : ∃ u9 : AM, u9 = (upM (upM (upM (up2 (up2 (up2 (up2 M B 0 (s 0)) B 2 (s 3)) B 4 (s 4)) B 7 (s 5)) (B + 1) (am_cpy ((up2 (up2 (up2 (up2 M B 0 (s 0)) B 2 (s 3)) B 4 (s 4)) B 7 (s 5)) (A + 1)) ((up2 (up2 (up2 (up2 M B 0 (s 0)) B 2 (s 3)) B 4 (s 4)) B 7 (s 5)) (B + 1)) 0 0 2)) (B + 17) (am_cpy ((upM (up2 (up2 (up2 (up2 M B 0 (s 0)) B 2 (s 3)) B 4 (s 4)) B 7 (s 5)) (B + 1) (am_cpy ((up2 (up2 (up2 (up2 M B 0 (s 0)) B 2 (s 3)) B 4 (s 4)) B 7 (s 5)) (A + 1)) ((up2 (up2 (up2 (up2 M B 0 (s 0)) B 2 (s 3)) B 4 (s 4)) B 7 (s 5)) (B + 1)) 0 0 2)) (A + 17)) ((upM (up2 (up2 (up2 (up2 M B 0 (s 0)) B 2 (s 3)) B 4 (s 4)) B 7 (s 5)) (B + 1) (am_cpy ((up2 (up2 (up2 (up2 M B 0 (s 0)) B 2 (s 3)) B 4 (s 4)) B 7 (s 5)) (A + 1)) ((up2 (up2 (up2 (up2 M B 0 (s 0)) B 2 (s 3)) B 4 (s 4)) B 7 (s 5)) (B + 1)) 0 0 2)) (B + 17)) 0 0 201)) (B + 23) (am_cpy ((upM (upM (up2 (up2 (up2 (up2 M B 0 (s 0)) B 2 (s 3)) B 4 (s 4)) B 7 (s 5)) (B + 1) (am_cpy ((up2 (up2 (up2 (up2 M B 0 (s 0)) B 2 (s 3)) B 4 (s 4)) B 7 (s 5)) (A + 1)) ((up2 (up2 (up2 (up2 M B 0 (s 0)) B 2 (s 3)) B 4 (s 4)) B 7 (s 5)) (B + 1)) 0 0 2)) (B + 17) (am_cpy ((upM (up2 (up2 (up2 (up2 M B 0 (s 0)) B 2 (s 3)) B 4 (s 4)) B 7 (s 5)) (B + 1) (am_cpy ((up2 (up2 (up2 (up2 M B 0 (s 0)) B 2 (s 3)) B 4 (s 4)) B 7 (s 5)) (A + 1)) ((up2 (up2 (up2 (up2 M B 0 (s 0)) B 2 (s 3)) B 4 (s 4)) B 7 (s 5)) (B + 1)) 0 0 2)) (A + 17)) ((upM (up2 (up2 (up2 (up2 M B 0 (s 0)) B 2 (s 3)) B 4 (s 4)) B 7 (s 5)) (B + 1) (am_cpy ((up2 (up2 (up2 (up2 M B 0 (s 0)) B 2 (s 3)) B 4 (s 4)) B 7 (s 5)) (A + 1)) ((up2 (up2 (up2 (up2 M B 0 (s 0)) B 2 (s 3)) B 4 (s 4)) B 7 (s 5)) (B + 1)) 0 0 2)) (B + 17)) 0 0 201)) (A + 23)) ((upM (upM (up2 (up2 (up2 (up2 M B 0 (s 0)) B 2 (s 3)) B 4 (s 4)) B 7 (s 5)) (B + 1) (am_cpy ((up2 (up2 (up2 (up2 M B 0 (s 0)) B 2 (s 3)) B 4 (s 4)) B 7 (s 5)) (A + 1)) ((up2 (up2 (up2 (up2 M B 0 (s 0)) B 2 (s 3)) B 4 (s 4)) B 7 (s 5)) (B + 1)) 0 0 2)) (B + 17) (am_cpy ((upM (up2 (up2 (up2 (up2 M B 0 (s 0)) B 2 (s 3)) B 4 (s 4)) B 7 (s 5)) (B + 1) (am_cpy ((up2 (up2 (up2 (up2 M B 0 (s 0)) B 2 (s 3)) B 4 (s 4)) B 7 (s 5)) (A + 1)) ((up2 (up2 (up2 (up2 M B 0 (s 0)) B 2 (s 3)) B 4 (s 4)) B 7 (s 5)) (B + 1)) 0 0 2)) (A + 17)) ((upM (up2 (up2 (up2 (up2 M B 0 (s 0)) B 2 (s 3)) B 4 (s 4)) B 7 (s 5)) (B + 1) (am_cpy ((up2 (up2 (up2 (up2 M B 0 (s 0)) B 2 (s 3)) B 4 (s 4)) B 7 (s 5)) (A + 1)) ((up2 (up2 (up2 (up2 M B 0 (s 0)) B 2 (s 3)) B 4 (s 4)) B 7 (s 5)) (B + 1)) 0 0 2)) (B + 17)) 0 0 201)) (B + 23)) 0 0 8)) := ⟨_, rfl⟩
  show Ok _ _ _ _ _ _ (upM (upM (upM (up2 (up2 (up2 (up2 M B 0 (s 0)) B 2 (s 3)) B 4 (s 4)) B 7 (s 5)) (B + 1) (am_cpy ((up2 (up2 (up2 (up2 M B 0 (s 0)) B 2 (s 3)) B 4 (s 4)) B 7 (s 5)) (A + 1)) ((up2 (up2 (up2 (up2 M B 0 (s 0)) B 2 (s 3)) B 4 (s 4)) B 7 (s 5)) (B + 1)) 0 0 2)) (B + 17) (am_cpy ((upM (up2 (up2 (up2 (up2 M B 0 (s 0)) B 2 (s 3)) B 4 (s 4)) B 7 (s 5)) (B + 1) (am_cpy ((up2 (up2 (up2 (up2 M B 0 (s 0)) B 2 (s 3)) B 4 (s 4)) B 7 (s 5)) (A + 1)) ((up2 (up2 (up2 (up2 M B 0 (s 0)) B 2 (s 3)) B 4 (s 4)) B 7 (s 5)) (B + 1)) 0 0 2)) (A + 17)) ((upM (up2 (up2 (up2 (up2 M B 0 (s 0)) B 2 (s 3)) B 4 (s 4)) B 7 (s 5)) (B + 1) (am_cpy ((up2 (up2 (up2 (up2 M B 0 (s 0)) B 2 (s 3)) B 4 (s 4)) B 7 (s 5)) (A + 1)) ((up2 (up2 (up2 (up2 M B 0 (s 0)) B 2 (s 3)) B 4 (s 4)) B 7 (s 5)) (B + 1)) 0 0 2)) (B + 17)) 0 0 201)) (B + 23) (am_cpy ((upM (upM (up2 (up2 (up2 (up2 M B 0 (s 0)) B 2 (s 3)) B 4 (s 4)) B 7 (s 5)) (B + 1) (am_cpy ((up2 (up2 (up2 (up2 M B 0 (s 0)) B 2 (s 3)) B 4 (s 4)) B 7 (s 5)) (A + 1)) ((up2 (up2 (up2 (up2 M B 0 (s 0)) B 2 (s 3)) B 4 (s 4)) B 7 (s 5)) (B + 1)) 0 0 2)) (B + 17) (am_cpy ((upM (up2 (up2 (up2 (up2 M B 0 (s 0)) B 2 (s 3)) B 4 (s 4)) B 7 (s 5)) (B + 1) (am_cpy ((up2 (up2 (up2 (up2 M B 0 (s 0)) B 2 (s 3)) B 4 (s 4)) B 7 (s 5)) (A + 1)) ((up2 (up2 (up2 (up2 M B 0 (s 0)) B 2 (s 3)) B 4 (s 4)) B 7 (s 5)) (B + 1)) 0 0 2)) (A + 17)) ((upM (up2 (up2 (up2 (up2 M B 0 (s 0)) B 2 (s 3)) B 4 (s 4)) B 7 (s 5)) (B + 1) (am_cpy ((up2 (up2 (up2 (up2 M B 0 (s 0)) B 2 (s 3)) B 4 (s 4)) B 7 (s 5)) (A + 1)) ((up2 (up2 (up2 (up2 M B 0 (s 0)) B 2 (s 3)) B 4 (s 4)) B 7 (s 5)) (B + 1)) 0 0 2)) (B + 17)) 0 0 201)) (A + 23)) ((upM (upM (up2 (up2 (up2 (up2 M B 0 (s 0)) B 2 (s 3)) B 4 (s 4)) B 7 (s 5)) (B + 1) (am_cpy ((up2 (up2 (up2 (up2 M B 0 (s 0)) B 2 (s 3)) B 4 (s 4)) B 7 (s 5)) (A + 1)) ((up2 (up2 (up2 (up2 M B 0 (s 0)) B 2 (s 3)) B 4 (s 4)) B 7 (s 5)) (B + 1)) 0 0 2)) (B + 17) (am_cpy ((upM (up2 (up2 (up2 (up2 M B 0 (s 0)) B 2 (s 3)) B 4 (s 4)) B 7 (s 5)) (B + 1) (am_cpy ((up2 (up2 (up2 (up2 M B 0 (s 0)) B 2 (s 3)) B 4 (s 4)) B 7 (s 5)) (A + 1)) ((up2 (up2 (up2 (up2 M B 0 (s 0)) B 2 (s 3)) B 4 (s 4)) B 7 (s 5)) (B + 1)) 0 0 2)) (A + 17)) ((upM (up2 (up2 (up2 (up2 M B 0 (s 0)) B 2 (s 3)) B 4 (s 4)) B 7 (s 5)) (B + 1) (am_cpy ((up2 (up2 (up2 (up2 M B 0 (s 0)) B 2 (s 3)) B 4 (s 4)) B 7 (s 5)) (A + 1)) ((up2 (up2 (up2 (up2 M B 0 (s 0)) B 2 (s 3)) B 4 (s 4)) B 7 (s 5)) (B + 1)) 0 0 2)) (B + 17)) 0 0 201)) (B + 23)) 0 0 8)) _
  rw [← hM5]
  obtain ⟨⟨rfld0, rfld2, rfld4, rfld7⟩, -, -, -, -⟩ := E5_rd hBA hM5
  refine w17_79 hSB hSA hBA (n := s 3) (by omega) (by exact rfld2) (fun M1 hM1 ls8 hls => ?_)
  subst hls
  refine ok_iconst (pc' := 112) i17_111 rfl <| ok_istoren (pc' := 113) (ls' := [aR B, aR A, aI 0]) i17_112 (bt rfl) rfl rfl <| ?_
  refine w17_113 hSB hSA hBA (n := s 4) (by omega) (by rw [hM1, cpy_na (by omega)]; exact rfld4) (fun M2 hM2 ls8 hls => ?_)
  subst hls
  refine ok_iconst (pc' := 147) i17_146 rfl <| ok_istoren (pc' := 148) (ls' := [aR B, aR A, aI 0]) i17_147 (bt rfl) rfl rfl <| ?_
  refine w17_148 hSB hSA hBA (n := s 5) (by omega) (by rw [hM2, cpy_na (by omega), hM1, cpy_na (by omega)]; exact rfld7) (fun M3 hM3 ls8 hls => ?_)
  subst hls
  refine ok_vret i17_180 rt17 <| ?_
  exact ⟨rfl, rfl, RepS_copy hRA hV hBA hM5 hM1 hM2 hM3⟩

