/-! TEXTS (by program, wip/gen) -/
section OK
variable {d mi pc pc' pc1 pc2 oc idx : Nat} {ls ls' st st' : List AV} {g g' : AG} {M M' : AM} {Q : AO → AG → AM → Prop} {i : Instr}
theorem ok_gst1 (hi : am_ins mi pc = some (.getstatic 38)) (ho : am_oc mi = 14) (hp : pc + 3 = pc') (k : Ok d mi pc' ls (aI 1 :: st) g M Q) : Ok d mi pc ls st g M Q := ok_step hi rfl rfl (by subst hp; show (if am_oc mi = 14 ∧ 38 = 38 ∨ am_oc mi = 24 ∧ 38 = 18 then _ else _) = _; rw [if_pos (Or.inl ⟨ho, rfl⟩)]) k
theorem ok_gst2 (hi : am_ins mi pc = some (.getstatic 1053)) (ho : am_oc mi = 14) (hp : pc + 3 = pc') (k : Ok d mi pc' ls (aR 2 :: st) g M Q) : Ok d mi pc ls st g M Q := ok_step hi rfl rfl (by subst hp; show (if am_oc mi = 14 ∧ 1053 = 38 ∨ am_oc mi = 24 ∧ 1053 = 18 then _ else if am_oc mi = 14 ∧ 1053 = 1053 then _ else _) = _; rw [if_neg (by omega), if_pos ⟨ho, rfl⟩]) k
theorem ok_ldci (hi : am_ins mi pc = some (.ldc 33)) (ho : am_oc mi = 6) (hp : pc + 2 = pc') (k : Ok d mi pc' ls (aI 1000000000 :: st) g M Q) : Ok d mi pc ls st g M Q := ok_ldct hi ho (by decide +kernel) hp k
theorem ok_ldcs {c : Nat} (hi : am_ins mi pc = some (.ldc idx)) (ho : am_oc mi = oc) (hs : (am_sr oc idx).map (fun q => q.2.1) = some c) (hn : am_ct oc idx = none) (hp : pc + 2 = pc') (k : Ok d mi pc' ls (aR c :: st) g M Q) : Ok d mi pc ls st g M Q := ok_ldcz hi ho hn hs hp k
theorem ok_ldws {c : Nat} (hi : am_ins mi pc = some (.ldc_w idx)) (ho : am_oc mi = oc) (hs : (am_sr oc idx).map (fun q => q.2.1) = some c) (hp : pc + 3 = pc') (k : Ok d mi pc' ls (aR c :: st) g M Q) : Ok d mi pc ls st g M Q := by
  subst hp
  cases e : am_sr oc idx with
  | none => rw [e] at hs; cases hs
  | some q =>
    obtain ⟨q1, q2, q3⟩ := q
    rw [e] at hs
    cases hs
    refine ok_step hi rfl rfl ?_ k
    show (match am_sr (am_oc mi) idx with | some (_, c, _) => some (pc + 3, ls, aR c :: st, g, M) | none => none) = _
    rw [ho, e]
end OK
def ShStr (g : AG) (a n : Nat) : Prop := gK g a = 14 ∧ gR g a 0 = a + 1 ∧ gK g (a + 1) = 27 ∧ gL g (a + 1) = n
theorem ShStr_k0 {g : AG} {a n : Nat} (h : ShStr g a n) : gK g a = 14 := h.1
theorem ShStr_r {g : AG} {a n : Nat} (h : ShStr g a n) : gR g a 0 = a + 1 := h.2.1
theorem ShStr_k1 {g : AG} {a n : Nat} (h : ShStr g a n) : gK g (a + 1) = 27 := h.2.2.1
theorem ShStr_l1 {g : AG} {a n : Nat} (h : ShStr g a n) : gL g (a + 1) = n := h.2.2.2
theorem i32_of {x : Int} (h : -2147483648 ≤ x ∧ x < 2147483648) : (Int32.ofInt x).toInt = x := Int32.toInt_ofInt_of_le (by omega) (by omega)
theorem am_shr_0 {x : Int} (h : -2147483648 ≤ x ∧ x < 2147483648) : am_shr x 0 = x := by
  unfold am_shr
  rw [show Int32.ofInt 0 &&& 31 = 0 from rfl]
  rw [show Int32.ofInt x >>> (0 : Int32) = Int32.ofInt x by simp]
  exact i32_of h
theorem and255_all : (List.range 128).all (fun k => decide (am_and (k : Int) 255 = k)) = true := by decide +kernel
theorem am_and_255 {x : Int} (h : 0 ≤ x ∧ x < 128) : am_and x 255 = x := by
  have h1 := of_decide_eq_true (List.all_eq_true.mp and255_all x.toNat (List.mem_range.mpr (by omega)))
  rw [Int.toNat_of_nonneg h.1] at h1
  exact h1
theorem bm_id {x : Int} (h : -128 ≤ x ∧ x < 128) : x.bmod 256 = x := by
  show (if x % ((256 : Nat) : Int) < (((256 : Nat) : Int) + 1) / 2 then x % ((256 : Nat) : Int) else x % ((256 : Nat) : Int) - ((256 : Nat) : Int)) = x
  split <;> omega
theorem tdiv_f {x : Int} (k : Int) (h : 0 ≤ x) (hk : 0 < k) : k * x.tdiv k ≤ x ∧ x ≤ k * x.tdiv k + (k - 1) ∧ 0 ≤ x.tdiv k := by
  rw [Int.tdiv_eq_ediv_of_nonneg h]
  have h1 := Int.mul_ediv_add_emod x k
  have h2 := Int.emod_nonneg x (show k ≠ 0 by omega)
  have h3 := Int.emod_lt_of_pos x hk
  refine ⟨by omega, by omega, Int.ediv_nonneg h (by omega)⟩
theorem tmod_f {x : Int} (k : Int) (h : 0 ≤ x) (hk : 0 < k) : 0 ≤ x.tmod k ∧ x.tmod k ≤ k - 1 := by
  rw [Int.tmod_eq_emod_of_nonneg h]
  have h2 := Int.emod_nonneg x (show k ≠ 0 by omega)
  have h3 := Int.emod_lt_of_pos x hk
  omega
/-! texts -/
abbrev Tx : Type := Int × (Int → Int)
def say (t : Tx) (c : Int) : Tx := (t.1 + 1, upI t.2 t.1 c)
def sayN (t : Tx) (v : Int) : Tx := if v < 10 then say t (48 + v) else if v < 100 then say (say t (48 + v / 10)) (48 + v % 10) else say (say (say t (48 + v / 100)) (48 + v / 10 % 10)) (48 + v % 10)
def RepT (M : AM) (X : Nat) (t : Tx) : Prop := M X 1 = t.1 ∧ 0 ≤ t.1 ∧ ∀ i : Int, 0 ≤ i → i < t.1 → M (X + 1) i = t.2 i
def RepU (M : AM) (O : Nat) (t : Tx) : Prop := M O 35 = t.1 ∧ 0 ≤ t.1 ∧ ∀ i : Int, 0 ≤ i → i < t.1 → M (O + 15) i = t.2 i
theorem sayN_1 {t : Tx} {v : Int} : t.1 + 1 ≤ (sayN t v).1 ∧ (sayN t v).1 ≤ t.1 + 3 := by
  unfold sayN
  split
  · show t.1 + 1 ≤ t.1 + 1 ∧ t.1 + 1 ≤ t.1 + 3; omega
  · split
    · show t.1 + 1 ≤ t.1 + 1 + 1 ∧ t.1 + 1 + 1 ≤ t.1 + 3; omega
    · show t.1 + 1 ≤ t.1 + 1 + 1 + 1 ∧ t.1 + 1 + 1 + 1 ≤ t.1 + 3; omega
theorem o1 : am_oc 1 = 14 := by decide +kernel
theorem m14_335 : am_mlk 14 335 0 4 = true := by decide +kernel
theorem na4 : am_na 4 = 0 := by decide +kernel
theorem nl4 : am_nL 4 = 1 := by decide +kernel
theorem pd4 : ∀ a0 : AV, am_pad 4 [a0] = [a0] := by intros; unfold am_pad; rw [nl4]; rfl
theorem ln4 : 1 ≤ am_nL 4 := by rw [nl4]; decide
theorem o4 : am_oc 4 = 14 := by decide +kernel
theorem rt4 : am_rt 4 = some .byte := by decide +kernel
theorem rt1 : am_rt 1 = some .int := by decide +kernel
theorem o2 : am_oc 2 = 14 := by decide +kernel
theorem m14_492 : am_mlk 14 492 0 3 = true := by decide +kernel
theorem na3 : am_na 3 = 0 := by decide +kernel
theorem nl3 : am_nL 3 = 1 := by decide +kernel
theorem pd3 : ∀ a0 : AV, am_pad 3 [a0] = [a0] := by intros; unfold am_pad; rw [nl3]; rfl
theorem ln3 : 1 ≤ am_nL 3 := by rw [nl3]; decide
theorem o3 : am_oc 3 = 14 := by decide +kernel
theorem rt3 : am_rt 3 = some .boolean := by decide +kernel
theorem m14_495 : am_mlk 14 495 1 6 = true := by decide +kernel
theorem na6 : am_na 6 = 2 := by decide +kernel
theorem nl6 : am_nL 6 = 2 := by decide +kernel
theorem pd6 : ∀ a0 a1 : AV, am_pad 6 [a0, a1] = [a0, a1] := by intros; unfold am_pad; rw [nl6]; rfl
theorem ln6 : 2 ≤ am_nL 6 := by rw [nl6]; decide
theorem o6 : am_oc 6 = 20 := by decide +kernel
theorem m20_9 : am_mlk 20 9 1 5 = true := by decide +kernel
theorem na5 : am_na 5 = 2 := by decide +kernel
theorem nl5 : am_nL 5 = 2 := by decide +kernel
theorem pd5 : ∀ a0 a1 : AV, am_pad 5 [a0, a1] = [a0, a1] := by intros; unfold am_pad; rw [nl5]; rfl
theorem ln5 : 2 ≤ am_nL 5 := by rw [nl5]; decide
theorem o5 : am_oc 5 = 14 := by decide +kernel
theorem m14_1059 : am_mlk 14 1059 1 7 = true := by decide +kernel
theorem na7 : am_na 7 = 3 := by decide +kernel
theorem nl7 : am_nL 7 = 3 := by decide +kernel
theorem pd7 : ∀ a0 a1 a2 : AV, am_pad 7 [a0, a1, a2] = [a0, a1, a2] := by intros; unfold am_pad; rw [nl7]; rfl
theorem ln7 : 3 ≤ am_nL 7 := by rw [nl7]; decide
theorem o7 : am_oc 7 = 21 := by decide +kernel
theorem rt7 : am_rt 7 = some .int := by decide +kernel
theorem rt5 : am_rt 5 = none := by decide +kernel
theorem rt6 : am_rt 6 = some .char := by decide +kernel
theorem rt2 : am_rt 2 = some .char := by decide +kernel
theorem gi6_15 : am_gfi 6 15 6 1 = true := by decide +kernel
theorem o29 : am_oc 29 = 6 := by decide +kernel
theorem gr6_11 : am_gfr 6 11 6 0 = true := by decide +kernel
theorem pi29_15 : am_pfi 29 6 15 6 1 = true := by decide +kernel
theorem rt29 : am_rt 29 = none := by decide +kernel
theorem o30 : am_oc 30 = 6 := by decide +kernel
theorem m6_29 : am_mlk 6 29 0 29 = true := by decide +kernel
theorem na29 : am_na 29 = 1 := by decide +kernel
theorem nl29 : am_nL 29 = 2 := by decide +kernel
theorem pd29 : ∀ a0 a1 : AV, am_pad 29 [a0, a1] = [a0, a1] := by intros; unfold am_pad; rw [nl29]; rfl
theorem ln29 : 2 ≤ am_nL 29 := by rw [nl29]; decide
theorem rt30 : am_rt 30 = none := by decide +kernel
theorem t1 {g : AG} {M : AM} {a n : Nat} (hSa : ShStr g a n) (hn : n ≤ 1000) :
    Ok 1 1 0 [aR a] [] g M (Rt (some (aI (n : Int))) g (fun M9 => M9 = M)) := by
  refine ok_aloadn (pc' := 1) i1_0 rfl rfl <| ok_getfs (r := (a + 1)) (pc' := 4) i1_1 o1 (ShStr_k0 hSa) (ShStr_r hSa) rfl <| ok_arrlen (v := n) (pc' := 5) i1_4 (ShStr_k1 hSa) (by decide) (by rw [(ShStr_l1 hSa)] <;> rfl) rfl <| ok_aloadn (pc' := 6) i1_5 rfl rfl <| ok_cc i1_6 rfl (cl_v o1 m14_335 na4 rfl rfl (bt rfl) (bt rfl) rfl (by rw [ShStr_k0 hSa, o4])) ln4 (pd4 (aR a)) <| ok_gst1 (pc' := 3) i4_0 o4 rfl <| ok_kz0 (pc1 := 13) (pc2 := 6) i4_3 (by decide) rfl rfl <| ok_aloadn (pc' := 7) i4_6 rfl rfl <| ?_
  refine ok_getfc (pc' := 10) i4_7 o4 (ShStr_k0 hSa) rfl <| ok_goto (pc' := 14) i4_10 rfl <| ok_iretb i4_14 rt4 (by decide) <| kt_v (pc' := 9) rfl <| ok_ishr (v := (am_shr n 0)) (pc' := 10) i1_9 rfl rfl <| ok_ireti i1_10 rt1 <| ?_
  exact ⟨by rw [show (am_shr n 0) = (n : Int) from am_shr_0 (by omega)], rfl, rfl⟩
theorem t2 {g : AG} {M : AM} {a n : Nat} {tx : Int → Int} {x1 : Int} (hSa : ShStr g a n) (hn : n ≤ 1000) (hT : ∀ i : Int, 0 ≤ i → i < n → M (a + 1) i = tx i ∧ 0 ≤ tx i ∧ tx i < 128) (h1 : 0 ≤ x1 ∧ x1 < n) :
    Ok 3 2 0 [aR a, aI x1] [] g M (Rt (some (aI (tx x1))) g (fun M9 => M9 = M)) := by
  refine ok_aloadn (pc' := 1) i2_0 rfl rfl <| ok_cc i2_1 rfl (cl_v o2 m14_492 na3 rfl rfl (bt rfl) (bt rfl) rfl (by rw [ShStr_k0 hSa, o3])) ln3 (pd3 (aR a)) <| ok_gst1 (pc' := 3) i3_0 o3 rfl <| ok_kz0 (pc1 := 17) (pc2 := 6) i3_3 (by decide) rfl rfl <| ok_aloadn (pc' := 7) i3_6 rfl rfl <| ok_getfc (pc' := 10) i3_7 o3 (ShStr_k0 hSa) rfl <| ok_kz0 (pc1 := 17) (pc2 := 13) i3_10 (by decide) rfl rfl <| ok_iconst (pc' := 14) i3_13 rfl <| ?_
  refine ok_goto (pc' := 18) i3_14 rfl <| ok_iretz i3_18 rt3 (by decide) <| kt_v (pc' := 4) rfl <| ok_kz0 (pc1 := 16) (pc2 := 7) i2_4 (by decide) rfl rfl <| ok_aloadn (pc' := 8) i2_7 rfl rfl <| ok_getfs (r := (a + 1)) (pc' := 11) i2_8 o2 (ShStr_k0 hSa) (ShStr_r hSa) rfl <| ok_iloadn (pc' := 12) i2_11 rfl rfl <| ok_cc i2_12 rfl (cl_s o2 m14_495 na6 rfl rfl (bt rfl) (bt rfl) rfl) ln6 (pd6 (aR (a + 1)) (aI x1)) <| ?_
  refine ok_iloadn (pc' := 1) i6_0 rfl rfl <| ok_aloadn (pc' := 2) i6_1 rfl rfl <| ok_arrlen (v := n) (pc' := 3) i6_2 (ShStr_k1 hSa) (by decide) (by rw [(ShStr_l1 hSa)] <;> rfl) rfl <| ok_cc i6_3 rfl (cl_s o6 m20_9 na5 rfl rfl (bt rfl) (bt rfl) rfl) ln5 (pd5 (aI x1) (aI n)) <| ok_iloadn (pc' := 1) i5_0 rfl rfl <| ok_iloadn (pc' := 2) i5_1 rfl rfl <| ok_gst2 (pc' := 5) i5_2 o5 rfl <| ok_cc i5_5 rfl (cl_s o5 m14_1059 na7 rfl rfl (bt rfl) (bt rfl) rfl) ln7 (pd7 (aI x1) (aI n) (aR 2)) <| ?_
  refine ok_iloadn (pc' := 1) i7_0 rfl rfl <| ?_
  refine ok_zlt (pc1 := 9) (pc2 := 4) i7_1 (by omega) rfl rfl (fun h9 => by exfalso; omega) (fun h1 => ?_)
  refine ok_iloadn (pc' := 5) i7_4 rfl rfl <| ok_iloadn (pc' := 6) i7_5 rfl rfl <| ?_
  refine ok_clt (pc1 := 16) (pc2 := 9) i7_6 (by omega) rfl rfl (fun h2 => ?_) (fun h9 => by exfalso; omega)
  refine ok_iloadn (pc' := 17) i7_16 rfl rfl <| ok_ireti i7_17 rt7 <| kt_v (pc' := 8) rfl <| ok_pop (pc' := 9) i5_8 rfl rfl <| ok_vret i5_9 rt5 <| kt_0 (pc' := 6) rfl <| ok_aloadn (pc' := 7) i6_6 rfl rfl <| ok_iloadn (pc' := 8) i6_7 rfl rfl <| ?_
  have z1 : 0 ≤ (tx x1) ∧ (tx x1) < 128 := (hT x1 (by omega) (by omega)).2
  refine ok_baload (v := (tx x1)) (pc' := 9) i6_8 (ShStr_k1 hSa) (by decide) (ShStr_l1 hSa) (by omega) (hT x1 (by omega) (by omega)).1 rfl <| ok_sipush (v := 255) (pc' := 12) i6_9 rfl rfl <| ok_iand (v := (am_and (tx x1) 255)) (pc' := 13) i6_12 rfl rfl <| ok_i2c (v := ((am_and (tx x1) 255) % 65536)) (pc' := 14) i6_13 rfl rfl <| ok_iretc i6_14 rt6 (by omega) <| kt_v (pc' := 15) rfl <| ok_iretc i2_15 rt2 (by omega) <| ?_
  exact ⟨by rw [show ((am_and (tx x1) 255) % 65536) = tx x1 by rw [am_and_255 (hT x1 (by omega) (by omega)).2]; have := (hT x1 (by omega) (by omega)).2; omega], rfl, rfl⟩
theorem t29 {g : AG} {M : AM} {X : Nat} {t : Tx} {x1 : Int} (hSX : ShText g X) (hT : RepT M X t) (hx1 : 0 ≤ x1 ∧ x1 < 128) (h2 : t.1 < 320) :
    Ok 0 29 0 [aR X, aI x1] [] g M (Rt none g (fun M9 => RepT M9 X (say t x1) ∧ ∀ c, c ≠ X ∧ c ≠ X + 1 → M9 c = M c)) := by
  have h0 := hT.2.1
  refine ok_aloadn (pc' := 1) i29_0 rfl rfl <| ok_getfi (v := t.1) (pc' := 4) i29_1 o29 gi6_15 (ShText_k0 hSX) hT.1 rfl <| ok_aloadn (pc' := 5) i29_4 rfl rfl <| ok_getfr (r := (X + 1)) (pc' := 8) i29_5 o29 gr6_11 (ShText_k0 hSX) (ShText_r0 hSX) rfl <| ok_arrlen (v := 320) (pc' := 9) i29_8 (ShText_k1 hSX) (by decide) (by rw [(ShText_l1 hSX)] <;> rfl) rfl <| ?_
  refine ok_cge (pc1 := 33) (pc2 := 12) i29_9 (by omega) rfl rfl (fun h9 => by exfalso; omega) (fun h1 => ?_)
  refine ok_aloadn (pc' := 13) i29_12 rfl rfl <| ok_getfr (r := (X + 1)) (pc' := 16) i29_13 o29 gr6_11 (ShText_k0 hSX) (ShText_r0 hSX) rfl <| ok_aloadn (pc' := 17) i29_16 rfl rfl <| ok_getfi (v := t.1) (pc' := 20) i29_17 o29 gi6_15 (ShText_k0 hSX) hT.1 rfl <| ok_iloadn (pc' := 21) i29_20 rfl rfl <| ok_i2b (v := x1) (pc' := 22) i29_21 (bm_id (by omega)) rfl <| ok_bastore (v := x1) (pc' := 23) i29_22 (Or.inl (ShText_k1 hSX)) (ShText_l1 hSX) (by omega) (bm_id (by omega)) rfl <| ok_aloadn (pc' := 24) i29_23 rfl rfl <| ?_
  refine ok_dup (pc' := 25) i29_24 rfl rfl <| ok_getfi (v := t.1) (pc' := 28) i29_25 o29 gi6_15 (ShText_k0 hSX) (rd_na (by omega) hT.1) rfl <| ok_iconst (pc' := 29) i29_28 rfl <| ok_iadd (v := (t.1 + 1)) (pc' := 30) i29_29 rfl rfl <| ok_putfi (pc' := 33) i29_30 o29 pi29_15 (ShText_k0 hSX) rfl <| ok_vret i29_33 rt29 <| ?_
  refine ⟨rfl, rfl, ⟨rd_eq, by show 0 ≤ t.1 + 1; have := hT.2.1; omega, fun i h8 h9 => ?_⟩, fun c hc => by rw [up2_na hc.1, up2_na hc.2]⟩
  have h10 : i < t.1 + 1 := h9
  show _ = upI t.2 t.1 x1 i
  rw [up2_na (by omega), up2_rd]
  unfold upI
  by_cases hi : i = t.1
  · rw [if_pos ⟨rfl, hi⟩, if_pos hi]
  · rw [if_neg (by omega), if_neg hi]; exact hT.2.2 i h8 (by omega)
theorem t30 {g : AG} {M : AM} {X : Nat} {t : Tx} {x1 : Int} (hSX : ShText g X) (hT : RepT M X t) (hx1 : 0 ≤ x1 ∧ x1 ≤ 999) (h2 : t.1 + 3 ≤ 320) :
    Ok 1 30 0 [aR X, aI x1, aU] [] g M (Rt none g (fun M9 => RepT M9 X (sayN t x1) ∧ ∀ c, c ≠ X ∧ c ≠ X + 1 → M9 c = M c)) := by
  have h0 := hT.2.1
  refine ok_ldci (pc' := 2) i30_0 o30 rfl <| ok_istoren (pc' := 3) (ls' := [aR X, aI x1, aI 1000000000]) i30_2 (bt rfl) rfl rfl <| ok_iloadn (pc' := 4) i30_3 rfl rfl <| ok_iconst (pc' := 5) i30_4 rfl <| ok_kc0 (pc1 := 40) (pc2 := 8) i30_5 (by decide) rfl rfl <| ok_iloadn (pc' := 9) i30_8 rfl rfl <| ok_iconst (pc' := 10) i30_9 rfl <| ok_kc0 (pc1 := 18) (pc2 := 13) i30_10 (by decide) rfl rfl <| ?_
  refine ok_iloadn (pc' := 14) i30_13 rfl rfl <| ok_iloadn (pc' := 15) i30_14 rfl rfl <| ?_
  refine ok_clt (pc1 := 32) (pc2 := 18) i30_15 (by omega) rfl rfl (fun h1 => ?_) (fun h9 => by exfalso; omega)
  refine ok_iloadn (pc' := 33) i30_32 rfl rfl <| ok_bipush (v := 10) (pc' := 35) i30_33 rfl rfl <| ok_idivp (v := 100000000) (pc' := 36) i30_35 ⟨by decide, by decide, by decide, by decide⟩ rfl rfl <| ok_istoren (pc' := 37) (ls' := [aR X, aI x1, aI 100000000]) i30_36 (bt rfl) rfl rfl <| ok_goto (pc' := 3) i30_37 rfl <| ok_iloadn (pc' := 4) i30_3 rfl rfl <| ok_iconst (pc' := 5) i30_4 rfl <| ok_kc0 (pc1 := 40) (pc2 := 8) i30_5 (by decide) rfl rfl <| ?_
  refine ok_iloadn (pc' := 9) i30_8 rfl rfl <| ok_iconst (pc' := 10) i30_9 rfl <| ok_kc0 (pc1 := 18) (pc2 := 13) i30_10 (by decide) rfl rfl <| ok_iloadn (pc' := 14) i30_13 rfl rfl <| ok_iloadn (pc' := 15) i30_14 rfl rfl <| ?_
  refine ok_clt (pc1 := 32) (pc2 := 18) i30_15 (by omega) rfl rfl (fun h2 => ?_) (fun h9 => by exfalso; omega)
  refine ok_iloadn (pc' := 33) i30_32 rfl rfl <| ok_bipush (v := 10) (pc' := 35) i30_33 rfl rfl <| ok_idivp (v := 10000000) (pc' := 36) i30_35 ⟨by decide, by decide, by decide, by decide⟩ rfl rfl <| ok_istoren (pc' := 37) (ls' := [aR X, aI x1, aI 10000000]) i30_36 (bt rfl) rfl rfl <| ok_goto (pc' := 3) i30_37 rfl <| ok_iloadn (pc' := 4) i30_3 rfl rfl <| ok_iconst (pc' := 5) i30_4 rfl <| ok_kc0 (pc1 := 40) (pc2 := 8) i30_5 (by decide) rfl rfl <| ?_
  refine ok_iloadn (pc' := 9) i30_8 rfl rfl <| ok_iconst (pc' := 10) i30_9 rfl <| ok_kc0 (pc1 := 18) (pc2 := 13) i30_10 (by decide) rfl rfl <| ok_iloadn (pc' := 14) i30_13 rfl rfl <| ok_iloadn (pc' := 15) i30_14 rfl rfl <| ?_
  refine ok_clt (pc1 := 32) (pc2 := 18) i30_15 (by omega) rfl rfl (fun h3 => ?_) (fun h9 => by exfalso; omega)
  refine ok_iloadn (pc' := 33) i30_32 rfl rfl <| ok_bipush (v := 10) (pc' := 35) i30_33 rfl rfl <| ok_idivp (v := 1000000) (pc' := 36) i30_35 ⟨by decide, by decide, by decide, by decide⟩ rfl rfl <| ok_istoren (pc' := 37) (ls' := [aR X, aI x1, aI 1000000]) i30_36 (bt rfl) rfl rfl <| ok_goto (pc' := 3) i30_37 rfl <| ok_iloadn (pc' := 4) i30_3 rfl rfl <| ok_iconst (pc' := 5) i30_4 rfl <| ok_kc0 (pc1 := 40) (pc2 := 8) i30_5 (by decide) rfl rfl <| ?_
  refine ok_iloadn (pc' := 9) i30_8 rfl rfl <| ok_iconst (pc' := 10) i30_9 rfl <| ok_kc0 (pc1 := 18) (pc2 := 13) i30_10 (by decide) rfl rfl <| ok_iloadn (pc' := 14) i30_13 rfl rfl <| ok_iloadn (pc' := 15) i30_14 rfl rfl <| ?_
  refine ok_clt (pc1 := 32) (pc2 := 18) i30_15 (by omega) rfl rfl (fun h4 => ?_) (fun h9 => by exfalso; omega)
  refine ok_iloadn (pc' := 33) i30_32 rfl rfl <| ok_bipush (v := 10) (pc' := 35) i30_33 rfl rfl <| ok_idivp (v := 100000) (pc' := 36) i30_35 ⟨by decide, by decide, by decide, by decide⟩ rfl rfl <| ok_istoren (pc' := 37) (ls' := [aR X, aI x1, aI 100000]) i30_36 (bt rfl) rfl rfl <| ok_goto (pc' := 3) i30_37 rfl <| ok_iloadn (pc' := 4) i30_3 rfl rfl <| ok_iconst (pc' := 5) i30_4 rfl <| ok_kc0 (pc1 := 40) (pc2 := 8) i30_5 (by decide) rfl rfl <| ?_
  refine ok_iloadn (pc' := 9) i30_8 rfl rfl <| ok_iconst (pc' := 10) i30_9 rfl <| ok_kc0 (pc1 := 18) (pc2 := 13) i30_10 (by decide) rfl rfl <| ok_iloadn (pc' := 14) i30_13 rfl rfl <| ok_iloadn (pc' := 15) i30_14 rfl rfl <| ?_
  refine ok_clt (pc1 := 32) (pc2 := 18) i30_15 (by omega) rfl rfl (fun h5 => ?_) (fun h9 => by exfalso; omega)
  refine ok_iloadn (pc' := 33) i30_32 rfl rfl <| ok_bipush (v := 10) (pc' := 35) i30_33 rfl rfl <| ok_idivp (v := 10000) (pc' := 36) i30_35 ⟨by decide, by decide, by decide, by decide⟩ rfl rfl <| ok_istoren (pc' := 37) (ls' := [aR X, aI x1, aI 10000]) i30_36 (bt rfl) rfl rfl <| ok_goto (pc' := 3) i30_37 rfl <| ok_iloadn (pc' := 4) i30_3 rfl rfl <| ok_iconst (pc' := 5) i30_4 rfl <| ok_kc0 (pc1 := 40) (pc2 := 8) i30_5 (by decide) rfl rfl <| ?_
  refine ok_iloadn (pc' := 9) i30_8 rfl rfl <| ok_iconst (pc' := 10) i30_9 rfl <| ok_kc0 (pc1 := 18) (pc2 := 13) i30_10 (by decide) rfl rfl <| ok_iloadn (pc' := 14) i30_13 rfl rfl <| ok_iloadn (pc' := 15) i30_14 rfl rfl <| ?_
  refine ok_clt (pc1 := 32) (pc2 := 18) i30_15 (by omega) rfl rfl (fun h6 => ?_) (fun h9 => by exfalso; omega)
  refine ok_iloadn (pc' := 33) i30_32 rfl rfl <| ok_bipush (v := 10) (pc' := 35) i30_33 rfl rfl <| ok_idivp (v := 1000) (pc' := 36) i30_35 ⟨by decide, by decide, by decide, by decide⟩ rfl rfl <| ok_istoren (pc' := 37) (ls' := [aR X, aI x1, aI 1000]) i30_36 (bt rfl) rfl rfl <| ok_goto (pc' := 3) i30_37 rfl <| ok_iloadn (pc' := 4) i30_3 rfl rfl <| ok_iconst (pc' := 5) i30_4 rfl <| ok_kc0 (pc1 := 40) (pc2 := 8) i30_5 (by decide) rfl rfl <| ?_
  refine ok_iloadn (pc' := 9) i30_8 rfl rfl <| ok_iconst (pc' := 10) i30_9 rfl <| ok_kc0 (pc1 := 18) (pc2 := 13) i30_10 (by decide) rfl rfl <| ok_iloadn (pc' := 14) i30_13 rfl rfl <| ok_iloadn (pc' := 15) i30_14 rfl rfl <| ?_
  refine ok_clt (pc1 := 32) (pc2 := 18) i30_15 (by omega) rfl rfl (fun h7 => ?_) (fun h9 => by exfalso; omega)
  refine ok_iloadn (pc' := 33) i30_32 rfl rfl <| ok_bipush (v := 10) (pc' := 35) i30_33 rfl rfl <| ok_idivp (v := 100) (pc' := 36) i30_35 ⟨by decide, by decide, by decide, by decide⟩ rfl rfl <| ok_istoren (pc' := 37) (ls' := [aR X, aI x1, aI 100]) i30_36 (bt rfl) rfl rfl <| ok_goto (pc' := 3) i30_37 rfl <| ok_iloadn (pc' := 4) i30_3 rfl rfl <| ok_iconst (pc' := 5) i30_4 rfl <| ok_kc0 (pc1 := 40) (pc2 := 8) i30_5 (by decide) rfl rfl <| ?_
  refine ok_iloadn (pc' := 9) i30_8 rfl rfl <| ok_iconst (pc' := 10) i30_9 rfl <| ok_kc0 (pc1 := 18) (pc2 := 13) i30_10 (by decide) rfl rfl <| ok_iloadn (pc' := 14) i30_13 rfl rfl <| ok_iloadn (pc' := 15) i30_14 rfl rfl <| ?_
  refine ok_clt (pc1 := 32) (pc2 := 18) i30_15 (by omega) rfl rfl (fun h8 => ?_) (fun h8 => ?_)
  · refine ok_iloadn (pc' := 33) i30_32 rfl rfl <| ok_bipush (v := 10) (pc' := 35) i30_33 rfl rfl <| ok_idivp (v := 10) (pc' := 36) i30_35 ⟨by decide, by decide, by decide, by decide⟩ rfl rfl <| ok_istoren (pc' := 37) (ls' := [aR X, aI x1, aI 10]) i30_36 (bt rfl) rfl rfl <| ok_goto (pc' := 3) i30_37 rfl <| ok_iloadn (pc' := 4) i30_3 rfl rfl <| ok_iconst (pc' := 5) i30_4 rfl <| ok_kc0 (pc1 := 40) (pc2 := 8) i30_5 (by decide) rfl rfl <| ?_
    refine ok_iloadn (pc' := 9) i30_8 rfl rfl <| ok_iconst (pc' := 10) i30_9 rfl <| ok_kc0 (pc1 := 18) (pc2 := 13) i30_10 (by decide) rfl rfl <| ok_iloadn (pc' := 14) i30_13 rfl rfl <| ok_iloadn (pc' := 15) i30_14 rfl rfl <| ?_
    refine ok_clt (pc1 := 32) (pc2 := 18) i30_15 (by omega) rfl rfl (fun h9 => ?_) (fun h9 => ?_)
    · refine ok_iloadn (pc' := 33) i30_32 rfl rfl <| ok_bipush (v := 10) (pc' := 35) i30_33 rfl rfl <| ok_idivp (v := 1) (pc' := 36) i30_35 ⟨by decide, by decide, by decide, by decide⟩ rfl rfl <| ok_istoren (pc' := 37) (ls' := [aR X, aI x1, aI 1]) i30_36 (bt rfl) rfl rfl <| ok_goto (pc' := 3) i30_37 rfl <| ok_iloadn (pc' := 4) i30_3 rfl rfl <| ok_iconst (pc' := 5) i30_4 rfl <| ok_kc0 (pc1 := 40) (pc2 := 8) i30_5 (by decide) rfl rfl <| ?_
      refine ok_iloadn (pc' := 9) i30_8 rfl rfl <| ok_iconst (pc' := 10) i30_9 rfl <| ok_kc1 (pc1 := 18) (pc2 := 13) i30_10 (by decide) rfl rfl <| ok_aloadn (pc' := 19) i30_18 rfl rfl <| ok_bipush (v := 48) (pc' := 21) i30_19 rfl rfl <| ok_iloadn (pc' := 22) i30_21 rfl rfl <| ok_iloadn (pc' := 23) i30_22 rfl rfl <| ok_idivp (v := (Int.tdiv x1 1)) (pc' := 24) i30_23 (by omega) rfl rfl <| ?_
      have z1 : 1 * (Int.tdiv x1 1) ≤ x1 ∧ x1 ≤ 1 * (Int.tdiv x1 1) + 0 ∧ 0 ≤ (Int.tdiv x1 1) := tdiv_f 1 (by omega) (by decide)
      refine ok_bipush (v := 10) (pc' := 26) i30_24 rfl rfl <| ok_iremp (v := (Int.tmod (Int.tdiv x1 1) 10)) (pc' := 27) i30_26 (by omega) rfl rfl <| ?_
      have z2 : 0 ≤ (Int.tmod (Int.tdiv x1 1) 10) ∧ (Int.tmod (Int.tdiv x1 1) 10) ≤ 9 := tmod_f 10 (by omega) (by decide)
      refine ok_iadd (v := (48 + (Int.tmod (Int.tdiv x1 1) 10))) (pc' := 28) i30_27 rfl rfl <| ok_i2c (v := (48 + (Int.tmod (Int.tdiv x1 1) 10))) (pc' := 29) i30_28 (by omega) rfl <| ?_
      refine ok_cn0 (pc' := 32) (d0 := 0) i30_29 rfl (cl_v o30 m6_29 na29 rfl rfl (bt rfl) (bt rfl) rfl (by rw [ShText_k0 hSX, o29])) ln29 (pd29 (aR X) (aI (48 + (Int.tmod (Int.tdiv x1 1) 10)))) (by omega) (t29 (x1 := (48 + (Int.tmod (Int.tdiv x1 1) 10))) hSX hT (by omega) (by omega)) rfl (fun M10 p11 => ?_)
      obtain ⟨t12, ht12⟩ : ∃ u9 : Tx, u9 = say t (48 + (Int.tmod (Int.tdiv x1 1) 10)) := ⟨_, rfl⟩
      rw [← ht12] at p11
      have z3 : t12.1 = t.1 + 1 := by rw [ht12]; rfl
      refine ok_iloadn (pc' := 33) i30_32 rfl rfl <| ok_bipush (v := 10) (pc' := 35) i30_33 rfl rfl <| ok_idivp (v := 0) (pc' := 36) i30_35 ⟨by decide, by decide, by decide, by decide⟩ rfl rfl <| ok_istoren (pc' := 37) (ls' := [aR X, aI x1, aI 0]) i30_36 (bt rfl) rfl rfl <| ok_goto (pc' := 3) i30_37 rfl <| ok_iloadn (pc' := 4) i30_3 rfl rfl <| ok_iconst (pc' := 5) i30_4 rfl <| ok_kc1 (pc1 := 40) (pc2 := 8) i30_5 (by decide) rfl rfl <| ?_
      refine ok_vret i30_40 rt30 <| ?_
      have e : sayN t x1 = t12 := by
        rw [ht12]
        unfold sayN
        simp only [Int.tdiv_eq_ediv_of_nonneg hx1.1, Int.tmod_eq_emod_of_nonneg (Int.ediv_nonneg hx1.1 (show (0 : Int) ≤ 1 by decide)), Int.tmod_eq_emod_of_nonneg (Int.ediv_nonneg hx1.1 (show (0 : Int) ≤ 10 by decide)), Int.tmod_eq_emod_of_nonneg (Int.ediv_nonneg hx1.1 (show (0 : Int) ≤ 100 by decide)), Int.ediv_one, Int.tmod_eq_emod_of_nonneg hx1.1]
        rw [if_pos (by omega), show x1 % 10 = x1 by omega]
      exact ⟨rfl, rfl, by rw [e]; exact p11.1, fun c hc => p11.2 c hc⟩
    · refine ok_aloadn (pc' := 19) i30_18 rfl rfl <| ok_bipush (v := 48) (pc' := 21) i30_19 rfl rfl <| ok_iloadn (pc' := 22) i30_21 rfl rfl <| ok_iloadn (pc' := 23) i30_22 rfl rfl <| ok_idivp (v := (Int.tdiv x1 10)) (pc' := 24) i30_23 (by omega) rfl rfl <| ?_
      have z4 : 10 * (Int.tdiv x1 10) ≤ x1 ∧ x1 ≤ 10 * (Int.tdiv x1 10) + 9 ∧ 0 ≤ (Int.tdiv x1 10) := tdiv_f 10 (by omega) (by decide)
      refine ok_bipush (v := 10) (pc' := 26) i30_24 rfl rfl <| ok_iremp (v := (Int.tmod (Int.tdiv x1 10) 10)) (pc' := 27) i30_26 (by omega) rfl rfl <| ?_
      have z5 : 0 ≤ (Int.tmod (Int.tdiv x1 10) 10) ∧ (Int.tmod (Int.tdiv x1 10) 10) ≤ 9 := tmod_f 10 (by omega) (by decide)
      refine ok_iadd (v := (48 + (Int.tmod (Int.tdiv x1 10) 10))) (pc' := 28) i30_27 rfl rfl <| ok_i2c (v := (48 + (Int.tmod (Int.tdiv x1 10) 10))) (pc' := 29) i30_28 (by omega) rfl <| ?_
      refine ok_cn0 (pc' := 32) (d0 := 0) i30_29 rfl (cl_v o30 m6_29 na29 rfl rfl (bt rfl) (bt rfl) rfl (by rw [ShText_k0 hSX, o29])) ln29 (pd29 (aR X) (aI (48 + (Int.tmod (Int.tdiv x1 10) 10)))) (by omega) (t29 (x1 := (48 + (Int.tmod (Int.tdiv x1 10) 10))) hSX hT (by omega) (by omega)) rfl (fun M13 p14 => ?_)
      obtain ⟨t15, ht15⟩ : ∃ u9 : Tx, u9 = say t (48 + (Int.tmod (Int.tdiv x1 10) 10)) := ⟨_, rfl⟩
      rw [← ht15] at p14
      have z6 : t15.1 = t.1 + 1 := by rw [ht15]; rfl
      refine ok_iloadn (pc' := 33) i30_32 rfl rfl <| ok_bipush (v := 10) (pc' := 35) i30_33 rfl rfl <| ok_idivp (v := 1) (pc' := 36) i30_35 ⟨by decide, by decide, by decide, by decide⟩ rfl rfl <| ok_istoren (pc' := 37) (ls' := [aR X, aI x1, aI 1]) i30_36 (bt rfl) rfl rfl <| ok_goto (pc' := 3) i30_37 rfl <| ok_iloadn (pc' := 4) i30_3 rfl rfl <| ok_iconst (pc' := 5) i30_4 rfl <| ok_kc0 (pc1 := 40) (pc2 := 8) i30_5 (by decide) rfl rfl <| ?_
      refine ok_iloadn (pc' := 9) i30_8 rfl rfl <| ok_iconst (pc' := 10) i30_9 rfl <| ok_kc1 (pc1 := 18) (pc2 := 13) i30_10 (by decide) rfl rfl <| ok_aloadn (pc' := 19) i30_18 rfl rfl <| ok_bipush (v := 48) (pc' := 21) i30_19 rfl rfl <| ok_iloadn (pc' := 22) i30_21 rfl rfl <| ok_iloadn (pc' := 23) i30_22 rfl rfl <| ok_idivp (v := (Int.tdiv x1 1)) (pc' := 24) i30_23 (by omega) rfl rfl <| ?_
      have z7 : 1 * (Int.tdiv x1 1) ≤ x1 ∧ x1 ≤ 1 * (Int.tdiv x1 1) + 0 ∧ 0 ≤ (Int.tdiv x1 1) := tdiv_f 1 (by omega) (by decide)
      refine ok_bipush (v := 10) (pc' := 26) i30_24 rfl rfl <| ok_iremp (v := (Int.tmod (Int.tdiv x1 1) 10)) (pc' := 27) i30_26 (by omega) rfl rfl <| ?_
      have z8 : 0 ≤ (Int.tmod (Int.tdiv x1 1) 10) ∧ (Int.tmod (Int.tdiv x1 1) 10) ≤ 9 := tmod_f 10 (by omega) (by decide)
      refine ok_iadd (v := (48 + (Int.tmod (Int.tdiv x1 1) 10))) (pc' := 28) i30_27 rfl rfl <| ok_i2c (v := (48 + (Int.tmod (Int.tdiv x1 1) 10))) (pc' := 29) i30_28 (by omega) rfl <| ?_
      refine ok_cn0 (pc' := 32) (d0 := 0) i30_29 rfl (cl_v o30 m6_29 na29 rfl rfl (bt rfl) (bt rfl) rfl (by rw [ShText_k0 hSX, o29])) ln29 (pd29 (aR X) (aI (48 + (Int.tmod (Int.tdiv x1 1) 10)))) (by omega) (t29 (x1 := (48 + (Int.tmod (Int.tdiv x1 1) 10))) hSX p14.1 (by omega) (by omega)) rfl (fun M16 p17 => ?_)
      obtain ⟨t18, ht18⟩ : ∃ u9 : Tx, u9 = say t15 (48 + (Int.tmod (Int.tdiv x1 1) 10)) := ⟨_, rfl⟩
      rw [← ht18] at p17
      have z9 : t18.1 = t15.1 + 1 := by rw [ht18]; rfl
      refine ok_iloadn (pc' := 33) i30_32 rfl rfl <| ok_bipush (v := 10) (pc' := 35) i30_33 rfl rfl <| ok_idivp (v := 0) (pc' := 36) i30_35 ⟨by decide, by decide, by decide, by decide⟩ rfl rfl <| ok_istoren (pc' := 37) (ls' := [aR X, aI x1, aI 0]) i30_36 (bt rfl) rfl rfl <| ok_goto (pc' := 3) i30_37 rfl <| ok_iloadn (pc' := 4) i30_3 rfl rfl <| ok_iconst (pc' := 5) i30_4 rfl <| ok_kc1 (pc1 := 40) (pc2 := 8) i30_5 (by decide) rfl rfl <| ?_
      refine ok_vret i30_40 rt30 <| ?_
      have e : sayN t x1 = t18 := by
        rw [ht18, ht15]
        unfold sayN
        simp only [Int.tdiv_eq_ediv_of_nonneg hx1.1, Int.tmod_eq_emod_of_nonneg (Int.ediv_nonneg hx1.1 (show (0 : Int) ≤ 1 by decide)), Int.tmod_eq_emod_of_nonneg (Int.ediv_nonneg hx1.1 (show (0 : Int) ≤ 10 by decide)), Int.tmod_eq_emod_of_nonneg (Int.ediv_nonneg hx1.1 (show (0 : Int) ≤ 100 by decide)), Int.ediv_one, Int.tmod_eq_emod_of_nonneg hx1.1]
        rw [if_neg (by omega), if_pos (by omega), show x1 / 10 % 10 = x1 / 10 by omega]
      exact ⟨rfl, rfl, by rw [e]; exact p17.1, fun c hc => (p17.2 c hc).trans (p14.2 c hc)⟩
  · refine ok_aloadn (pc' := 19) i30_18 rfl rfl <| ok_bipush (v := 48) (pc' := 21) i30_19 rfl rfl <| ok_iloadn (pc' := 22) i30_21 rfl rfl <| ok_iloadn (pc' := 23) i30_22 rfl rfl <| ok_idivp (v := (Int.tdiv x1 100)) (pc' := 24) i30_23 (by omega) rfl rfl <| ?_
    have z10 : 100 * (Int.tdiv x1 100) ≤ x1 ∧ x1 ≤ 100 * (Int.tdiv x1 100) + 99 ∧ 0 ≤ (Int.tdiv x1 100) := tdiv_f 100 (by omega) (by decide)
    refine ok_bipush (v := 10) (pc' := 26) i30_24 rfl rfl <| ok_iremp (v := (Int.tmod (Int.tdiv x1 100) 10)) (pc' := 27) i30_26 (by omega) rfl rfl <| ?_
    have z11 : 0 ≤ (Int.tmod (Int.tdiv x1 100) 10) ∧ (Int.tmod (Int.tdiv x1 100) 10) ≤ 9 := tmod_f 10 (by omega) (by decide)
    refine ok_iadd (v := (48 + (Int.tmod (Int.tdiv x1 100) 10))) (pc' := 28) i30_27 rfl rfl <| ok_i2c (v := (48 + (Int.tmod (Int.tdiv x1 100) 10))) (pc' := 29) i30_28 (by omega) rfl <| ?_
    refine ok_cn0 (pc' := 32) (d0 := 0) i30_29 rfl (cl_v o30 m6_29 na29 rfl rfl (bt rfl) (bt rfl) rfl (by rw [ShText_k0 hSX, o29])) ln29 (pd29 (aR X) (aI (48 + (Int.tmod (Int.tdiv x1 100) 10)))) (by omega) (t29 (x1 := (48 + (Int.tmod (Int.tdiv x1 100) 10))) hSX hT (by omega) (by omega)) rfl (fun M19 p20 => ?_)
    obtain ⟨t21, ht21⟩ : ∃ u9 : Tx, u9 = say t (48 + (Int.tmod (Int.tdiv x1 100) 10)) := ⟨_, rfl⟩
    rw [← ht21] at p20
    have z12 : t21.1 = t.1 + 1 := by rw [ht21]; rfl
    refine ok_iloadn (pc' := 33) i30_32 rfl rfl <| ok_bipush (v := 10) (pc' := 35) i30_33 rfl rfl <| ok_idivp (v := 10) (pc' := 36) i30_35 ⟨by decide, by decide, by decide, by decide⟩ rfl rfl <| ok_istoren (pc' := 37) (ls' := [aR X, aI x1, aI 10]) i30_36 (bt rfl) rfl rfl <| ok_goto (pc' := 3) i30_37 rfl <| ok_iloadn (pc' := 4) i30_3 rfl rfl <| ok_iconst (pc' := 5) i30_4 rfl <| ok_kc0 (pc1 := 40) (pc2 := 8) i30_5 (by decide) rfl rfl <| ?_
    refine ok_iloadn (pc' := 9) i30_8 rfl rfl <| ok_iconst (pc' := 10) i30_9 rfl <| ok_kc0 (pc1 := 18) (pc2 := 13) i30_10 (by decide) rfl rfl <| ok_iloadn (pc' := 14) i30_13 rfl rfl <| ok_iloadn (pc' := 15) i30_14 rfl rfl <| ?_
    refine ok_clt (pc1 := 32) (pc2 := 18) i30_15 (by omega) rfl rfl (fun h9 => by exfalso; omega) (fun h22 => ?_)
    refine ok_aloadn (pc' := 19) i30_18 rfl rfl <| ok_bipush (v := 48) (pc' := 21) i30_19 rfl rfl <| ok_iloadn (pc' := 22) i30_21 rfl rfl <| ok_iloadn (pc' := 23) i30_22 rfl rfl <| ok_idivp (v := (Int.tdiv x1 10)) (pc' := 24) i30_23 (by omega) rfl rfl <| ?_
    have z13 : 10 * (Int.tdiv x1 10) ≤ x1 ∧ x1 ≤ 10 * (Int.tdiv x1 10) + 9 ∧ 0 ≤ (Int.tdiv x1 10) := tdiv_f 10 (by omega) (by decide)
    refine ok_bipush (v := 10) (pc' := 26) i30_24 rfl rfl <| ok_iremp (v := (Int.tmod (Int.tdiv x1 10) 10)) (pc' := 27) i30_26 (by omega) rfl rfl <| ?_
    have z14 : 0 ≤ (Int.tmod (Int.tdiv x1 10) 10) ∧ (Int.tmod (Int.tdiv x1 10) 10) ≤ 9 := tmod_f 10 (by omega) (by decide)
    refine ok_iadd (v := (48 + (Int.tmod (Int.tdiv x1 10) 10))) (pc' := 28) i30_27 rfl rfl <| ok_i2c (v := (48 + (Int.tmod (Int.tdiv x1 10) 10))) (pc' := 29) i30_28 (by omega) rfl <| ?_
    refine ok_cn0 (pc' := 32) (d0 := 0) i30_29 rfl (cl_v o30 m6_29 na29 rfl rfl (bt rfl) (bt rfl) rfl (by rw [ShText_k0 hSX, o29])) ln29 (pd29 (aR X) (aI (48 + (Int.tmod (Int.tdiv x1 10) 10)))) (by omega) (t29 (x1 := (48 + (Int.tmod (Int.tdiv x1 10) 10))) hSX p20.1 (by omega) (by omega)) rfl (fun M23 p24 => ?_)
    obtain ⟨t25, ht25⟩ : ∃ u9 : Tx, u9 = say t21 (48 + (Int.tmod (Int.tdiv x1 10) 10)) := ⟨_, rfl⟩
    rw [← ht25] at p24
    have z15 : t25.1 = t21.1 + 1 := by rw [ht25]; rfl
    refine ok_iloadn (pc' := 33) i30_32 rfl rfl <| ok_bipush (v := 10) (pc' := 35) i30_33 rfl rfl <| ok_idivp (v := 1) (pc' := 36) i30_35 ⟨by decide, by decide, by decide, by decide⟩ rfl rfl <| ok_istoren (pc' := 37) (ls' := [aR X, aI x1, aI 1]) i30_36 (bt rfl) rfl rfl <| ok_goto (pc' := 3) i30_37 rfl <| ok_iloadn (pc' := 4) i30_3 rfl rfl <| ok_iconst (pc' := 5) i30_4 rfl <| ok_kc0 (pc1 := 40) (pc2 := 8) i30_5 (by decide) rfl rfl <| ?_
    refine ok_iloadn (pc' := 9) i30_8 rfl rfl <| ok_iconst (pc' := 10) i30_9 rfl <| ok_kc1 (pc1 := 18) (pc2 := 13) i30_10 (by decide) rfl rfl <| ok_aloadn (pc' := 19) i30_18 rfl rfl <| ok_bipush (v := 48) (pc' := 21) i30_19 rfl rfl <| ok_iloadn (pc' := 22) i30_21 rfl rfl <| ok_iloadn (pc' := 23) i30_22 rfl rfl <| ok_idivp (v := (Int.tdiv x1 1)) (pc' := 24) i30_23 (by omega) rfl rfl <| ?_
    have z16 : 1 * (Int.tdiv x1 1) ≤ x1 ∧ x1 ≤ 1 * (Int.tdiv x1 1) + 0 ∧ 0 ≤ (Int.tdiv x1 1) := tdiv_f 1 (by omega) (by decide)
    refine ok_bipush (v := 10) (pc' := 26) i30_24 rfl rfl <| ok_iremp (v := (Int.tmod (Int.tdiv x1 1) 10)) (pc' := 27) i30_26 (by omega) rfl rfl <| ?_
    have z17 : 0 ≤ (Int.tmod (Int.tdiv x1 1) 10) ∧ (Int.tmod (Int.tdiv x1 1) 10) ≤ 9 := tmod_f 10 (by omega) (by decide)
    refine ok_iadd (v := (48 + (Int.tmod (Int.tdiv x1 1) 10))) (pc' := 28) i30_27 rfl rfl <| ok_i2c (v := (48 + (Int.tmod (Int.tdiv x1 1) 10))) (pc' := 29) i30_28 (by omega) rfl <| ?_
    refine ok_cn0 (pc' := 32) (d0 := 0) i30_29 rfl (cl_v o30 m6_29 na29 rfl rfl (bt rfl) (bt rfl) rfl (by rw [ShText_k0 hSX, o29])) ln29 (pd29 (aR X) (aI (48 + (Int.tmod (Int.tdiv x1 1) 10)))) (by omega) (t29 (x1 := (48 + (Int.tmod (Int.tdiv x1 1) 10))) hSX p24.1 (by omega) (by omega)) rfl (fun M26 p27 => ?_)
    obtain ⟨t28, ht28⟩ : ∃ u9 : Tx, u9 = say t25 (48 + (Int.tmod (Int.tdiv x1 1) 10)) := ⟨_, rfl⟩
    rw [← ht28] at p27
    have z18 : t28.1 = t25.1 + 1 := by rw [ht28]; rfl
    refine ok_iloadn (pc' := 33) i30_32 rfl rfl <| ok_bipush (v := 10) (pc' := 35) i30_33 rfl rfl <| ok_idivp (v := 0) (pc' := 36) i30_35 ⟨by decide, by decide, by decide, by decide⟩ rfl rfl <| ok_istoren (pc' := 37) (ls' := [aR X, aI x1, aI 0]) i30_36 (bt rfl) rfl rfl <| ok_goto (pc' := 3) i30_37 rfl <| ok_iloadn (pc' := 4) i30_3 rfl rfl <| ok_iconst (pc' := 5) i30_4 rfl <| ok_kc1 (pc1 := 40) (pc2 := 8) i30_5 (by decide) rfl rfl <| ?_
    refine ok_vret i30_40 rt30 <| ?_
    have e : sayN t x1 = t28 := by
      rw [ht28, ht25, ht21]
      unfold sayN
      simp only [Int.tdiv_eq_ediv_of_nonneg hx1.1, Int.tmod_eq_emod_of_nonneg (Int.ediv_nonneg hx1.1 (show (0 : Int) ≤ 1 by decide)), Int.tmod_eq_emod_of_nonneg (Int.ediv_nonneg hx1.1 (show (0 : Int) ≤ 10 by decide)), Int.tmod_eq_emod_of_nonneg (Int.ediv_nonneg hx1.1 (show (0 : Int) ≤ 100 by decide)), Int.ediv_one, Int.tmod_eq_emod_of_nonneg hx1.1]
      rw [if_neg (by omega), if_neg (by omega), show x1 / 100 % 10 = x1 / 100 by omega]
    exact ⟨rfl, rfl, by rw [e]; exact p27.1, fun c hc => ((p27.2 c hc).trans (p24.2 c hc)).trans (p20.2 c hc)⟩
