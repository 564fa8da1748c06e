/-! A PLAN IS COPIED; BYTES OF A WORD -/
theorem ok_acopyW {d mi pc pc' oc idx : Nat} {ls st : List AV} {g : AG} {M : AM} {Q : AO → AG → AM → Prop} {cn : Int} {a a0 n n0 : Nat} (hi : am_ins mi pc = some (.invokestatic idx)) (ho : am_oc mi = oc) (hm : am_mlk oc idx 4 0 = true) (hk : gK g a = 20) (hk0 : gK g a0 = 20) (hL : gL g a = n) (hL0 : gL g a0 = n0) (hb : 0 ≤ cn ∧ cn ≤ (n0 : Int) ∧ cn ≤ (n : Int)) (hs : (st.map am_cat).sum ≤ 8) (hp : pc + 3 = pc')
    (k : ∀ M1 : AM, (∀ i : Int, 0 ≤ i → i < cn → M1 a i = M a0 i) → (∀ c, c ≠ a → M1 c = M c) → Ok d mi pc' ls st g M1 Q) : Ok d mi pc ls (aI cn :: aI 0 :: aR a :: aI 0 :: aR a0 :: st) g M Q :=
  ok_acopy hi ho hm hk hk0 hL hL0 (by omega) hs hp (k _ (fun i i0 i1 => by
    rw [upM_at]
    unfold am_cpy
    rw [if_pos (by omega)]
    congr 1
    omega) (fun c hc => upM_na hc))
theorem bm_4 (U : Nat) (h : U < 4294967296) : Int.bmod (U : Int) 4294967296 = if U < 2147483648 then (U : Int) else (U : Int) - 4294967296 := by
  rw [Int.bmod_def]
  split <;> split <;> omega
theorem i32_nat {x : Int} (h : -2147483648 ≤ x ∧ x < 2147483648) : ∃ U : Nat, (Int32.ofInt x).toBitVec.toNat = U ∧ U < 4294967296 ∧ x = if U < 2147483648 then (U : Int) else (U : Int) - 4294967296 := by
  refine ⟨_, rfl, (Int32.ofInt x).toBitVec.isLt, ?_⟩
  rw [← bm_4 _ (Int32.ofInt x).toBitVec.isLt]
  have e := i32_of h
  rw [← e]
  show (Int32.ofInt x).toBitVec.toInt = _
  rw [e]
  exact BitVec.toInt_eq_toNat_bmod _
theorem ushr_eq {x : Int} {U : Nat} (hU : (Int32.ofInt x).toBitVec.toNat = U) (hl : U < 4294967296) (k : Nat) {y : Int} (hy : ((Int32.ofInt y).toUInt32 &&& Int32.toUInt32 31).toNat % 32 = k) (hk : U / 2 ^ k < 2147483648) : am_ushr x y = (U / 2 ^ k : Nat) := by
  have e : am_ushr x y = ((Int32.ofInt x).toUInt32 >>> ((Int32.ofInt y).toUInt32 &&& Int32.toUInt32 31)).toBitVec.toInt := rfl
  have e2 : ((Int32.ofInt x).toUInt32 >>> ((Int32.ofInt y).toUInt32 &&& Int32.toUInt32 31)).toBitVec.toNat = U / 2 ^ k := by
    show ((Int32.ofInt x).toUInt32 >>> ((Int32.ofInt y).toUInt32 &&& Int32.toUInt32 31)).toNat = _
    rw [UInt32.toNat_shiftRight, hy, Nat.shiftRight_eq_div_pow]
    show (Int32.ofInt x).toBitVec.toNat / _ = _
    rw [hU]
  rw [e, BitVec.toInt_eq_toNat_bmod, e2, show (2 ^ 32 : Nat) = 4294967296 from rfl, bm_4 _ (by omega), if_pos hk]
theorem o13 : am_oc 13 = 4 := by decide +kernel
theorem pi13_26 : am_pfi 13 4 26 4 0 = true := by decide +kernel
theorem pi13_30 : am_pfi 13 4 30 4 3 = true := by decide +kernel
theorem m4_33 : am_mlk 4 33 4 0 = true := by decide +kernel
theorem rt13 : am_rt 13 = none := by decide +kernel
theorem t13 {g : AG} {M : AM} {O : Nat} {q : Int → Int} (hS138 : ShPlan g (O + 38)) (hS103 : ShPlan g (O + 3)) (hPP : RepP M (O + 3) q) (hQ : ValQ q) :
    Ok 0 13 0 [aR (O + 38), aR (O + 3), aU] [] g M (Rt none g (fun M9 => RepP M9 (O + 38) q ∧ ∀ c : Nat, (c < (O + 38) ∨ (O + 49) ≤ c) → M9 c = M c)) := by
  have yq0 := Q_0 hQ
  have yq1 := Q_1 hQ
  refine ok_aloadn (pc' := 1) i13_0 rfl rfl <| ok_aloadn (pc' := 2) i13_1 rfl rfl <| ok_getfi (v := (q 0)) (pc' := 5) i13_2 o13 gi4_26 (ShPlan_k0 hS103) (RepP_f0 hPP) rfl <| ok_putfj (kk := 0) (pc' := 8) i13_5 o13 pi13_26 (ShPlan_k0 hS138) rfl rfl <| ok_aloadn (pc' := 9) i13_8 rfl rfl <| ok_aloadn (pc' := 10) i13_9 rfl rfl <| ok_getfi (v := (q 1)) (pc' := 13) i13_10 o13 gi4_30 (ShPlan_k0 hS103) (rd_na (by omega) (RepP_f3 hPP)) rfl <| ok_putfj (kk := 3) (pc' := 16) i13_13 o13 pi13_30 (ShPlan_k0 hS138) rfl rfl <| ?_
  refine ok_aloadn (pc' := 17) i13_16 rfl rfl <| ok_getfr (r := ((O + 3) + 1)) (pc' := 20) i13_17 o13 gr4_9 (ShPlan_k0 hS103) (ShPlan_r1 hS103) rfl <| ok_iconst (pc' := 21) i13_20 rfl <| ok_aloadn (pc' := 22) i13_21 rfl rfl <| ok_getfr (r := ((O + 38) + 1)) (pc' := 25) i13_22 o13 gr4_9 (ShPlan_k0 hS138) (ShPlan_r1 hS138) rfl <| ok_iconst (pc' := 26) i13_25 rfl <| ok_iconst (pc' := 27) i13_26 rfl <| ?_
  refine ok_acopyW (pc' := 30) i13_27 o13 m4_33 (ShPlan_k1 hS138) (ShPlan_k1 hS103) (ShPlan_l1 hS138) (ShPlan_l1 hS103) (by decide) (bt rfl) rfl (fun M501 p502 r503 => ?_)
  refine ok_aloadn (pc' := 31) i13_30 rfl rfl <| ok_getfr (r := ((O + 3) + 2)) (pc' := 34) i13_31 o13 gr4_15 (ShPlan_k0 hS103) (ShPlan_r2 hS103) rfl <| ok_iconst (pc' := 35) i13_34 rfl <| ok_aloadn (pc' := 36) i13_35 rfl rfl <| ok_getfr (r := ((O + 38) + 2)) (pc' := 39) i13_36 o13 gr4_15 (ShPlan_k0 hS138) (ShPlan_r2 hS138) rfl <| ok_iconst (pc' := 40) i13_39 rfl <| ok_iconst (pc' := 41) i13_40 rfl <| ?_
  refine ok_acopyW (pc' := 44) i13_41 o13 m4_33 (ShPlan_k2 hS138) (ShPlan_k2 hS103) (ShPlan_l2 hS138) (ShPlan_l2 hS103) (by decide) (bt rfl) rfl (fun M504 p505 r506 => ?_)
  refine ok_aloadn (pc' := 45) i13_44 rfl rfl <| ok_getfr (r := ((O + 3) + 3)) (pc' := 48) i13_45 o13 gr4_18 (ShPlan_k0 hS103) (ShPlan_r4 hS103) rfl <| ok_iconst (pc' := 49) i13_48 rfl <| ok_aloadn (pc' := 50) i13_49 rfl rfl <| ok_getfr (r := ((O + 38) + 3)) (pc' := 53) i13_50 o13 gr4_18 (ShPlan_k0 hS138) (ShPlan_r4 hS138) rfl <| ok_iconst (pc' := 54) i13_53 rfl <| ok_bipush (v := 6) (pc' := 56) i13_54 rfl rfl <| ?_
  refine ok_acopyW (pc' := 59) i13_56 o13 m4_33 (ShPlan_k3 hS138) (ShPlan_k3 hS103) (ShPlan_l3 hS138) (ShPlan_l3 hS103) (by decide) (bt rfl) rfl (fun M507 p508 r509 => ?_)
  refine ok_iconst (pc' := 60) i13_59 rfl <| ok_istoren (pc' := 61) (ls' := [aR (O + 38), aR (O + 3), aI 0]) i13_60 (bt rfl) rfl rfl <| ok_iloadn (pc' := 62) i13_61 rfl rfl <| ok_bipush (v := 6) (pc' := 64) i13_62 rfl rfl <| ok_kc0 (pc1 := 92) (pc2 := 67) i13_64 (by decide) rfl rfl <| ok_aloadn (pc' := 68) i13_67 rfl rfl <| ok_getfr (r := ((O + 3) + 4)) (pc' := 71) i13_68 o13 gr4_23 (ShPlan_k0 hS103) (ShPlan_r5 hS103) rfl <| ok_iloadn (pc' := 72) i13_71 rfl rfl <| ?_
  refine ok_aaload (r := ((O + 3) + 5)) (pc' := 73) i13_72 (ShPlan_k4 hS103) (by decide) (ShPlan_l4 hS103) (by decide) (ShPlan_e4_0 hS103) rfl <| ok_iconst (pc' := 74) i13_73 rfl <| ok_aloadn (pc' := 75) i13_74 rfl rfl <| ok_getfr (r := ((O + 38) + 4)) (pc' := 78) i13_75 o13 gr4_23 (ShPlan_k0 hS138) (ShPlan_r5 hS138) rfl <| ok_iloadn (pc' := 79) i13_78 rfl rfl <| ok_aaload (r := ((O + 38) + 5)) (pc' := 80) i13_79 (ShPlan_k4 hS138) (by decide) (ShPlan_l4 hS138) (by decide) (ShPlan_e4_0 hS138) rfl <| ok_iconst (pc' := 81) i13_80 rfl <| ok_bipush (v := 6) (pc' := 83) i13_81 rfl rfl <| ?_
  refine ok_acopyW (pc' := 86) i13_83 o13 m4_33 (ShPlan_k5 hS138) (ShPlan_k5 hS103) (ShPlan_l5 hS138) (ShPlan_l5 hS103) (by decide) (bt rfl) rfl (fun M510 p511 r512 => ?_)
  refine ok_iinc (pc' := 89) (v := 1) (ls' := [aR (O + 38), aR (O + 3), aI 1]) i13_86 rfl rfl rfl rfl <| ok_goto (pc' := 61) i13_89 rfl <| ok_iloadn (pc' := 62) i13_61 rfl rfl <| ok_bipush (v := 6) (pc' := 64) i13_62 rfl rfl <| ok_kc0 (pc1 := 92) (pc2 := 67) i13_64 (by decide) rfl rfl <| ok_aloadn (pc' := 68) i13_67 rfl rfl <| ok_getfr (r := ((O + 3) + 4)) (pc' := 71) i13_68 o13 gr4_23 (ShPlan_k0 hS103) (ShPlan_r5 hS103) rfl <| ok_iloadn (pc' := 72) i13_71 rfl rfl <| ?_
  refine ok_aaload (r := ((O + 3) + 6)) (pc' := 73) i13_72 (ShPlan_k4 hS103) (by decide) (ShPlan_l4 hS103) (by decide) (ShPlan_e4_1 hS103) rfl <| ok_iconst (pc' := 74) i13_73 rfl <| ok_aloadn (pc' := 75) i13_74 rfl rfl <| ok_getfr (r := ((O + 38) + 4)) (pc' := 78) i13_75 o13 gr4_23 (ShPlan_k0 hS138) (ShPlan_r5 hS138) rfl <| ok_iloadn (pc' := 79) i13_78 rfl rfl <| ok_aaload (r := ((O + 38) + 6)) (pc' := 80) i13_79 (ShPlan_k4 hS138) (by decide) (ShPlan_l4 hS138) (by decide) (ShPlan_e4_1 hS138) rfl <| ok_iconst (pc' := 81) i13_80 rfl <| ok_bipush (v := 6) (pc' := 83) i13_81 rfl rfl <| ?_
  refine ok_acopyW (pc' := 86) i13_83 o13 m4_33 (ShPlan_k6 hS138) (ShPlan_k6 hS103) (ShPlan_l6 hS138) (ShPlan_l6 hS103) (by decide) (bt rfl) rfl (fun M513 p514 r515 => ?_)
  refine ok_iinc (pc' := 89) (v := 2) (ls' := [aR (O + 38), aR (O + 3), aI 2]) i13_86 rfl rfl rfl rfl <| ok_goto (pc' := 61) i13_89 rfl <| ok_iloadn (pc' := 62) i13_61 rfl rfl <| ok_bipush (v := 6) (pc' := 64) i13_62 rfl rfl <| ok_kc0 (pc1 := 92) (pc2 := 67) i13_64 (by decide) rfl rfl <| ok_aloadn (pc' := 68) i13_67 rfl rfl <| ok_getfr (r := ((O + 3) + 4)) (pc' := 71) i13_68 o13 gr4_23 (ShPlan_k0 hS103) (ShPlan_r5 hS103) rfl <| ok_iloadn (pc' := 72) i13_71 rfl rfl <| ?_
  refine ok_aaload (r := ((O + 3) + 7)) (pc' := 73) i13_72 (ShPlan_k4 hS103) (by decide) (ShPlan_l4 hS103) (by decide) (ShPlan_e4_2 hS103) rfl <| ok_iconst (pc' := 74) i13_73 rfl <| ok_aloadn (pc' := 75) i13_74 rfl rfl <| ok_getfr (r := ((O + 38) + 4)) (pc' := 78) i13_75 o13 gr4_23 (ShPlan_k0 hS138) (ShPlan_r5 hS138) rfl <| ok_iloadn (pc' := 79) i13_78 rfl rfl <| ok_aaload (r := ((O + 38) + 7)) (pc' := 80) i13_79 (ShPlan_k4 hS138) (by decide) (ShPlan_l4 hS138) (by decide) (ShPlan_e4_2 hS138) rfl <| ok_iconst (pc' := 81) i13_80 rfl <| ok_bipush (v := 6) (pc' := 83) i13_81 rfl rfl <| ?_
  refine ok_acopyW (pc' := 86) i13_83 o13 m4_33 (ShPlan_k7 hS138) (ShPlan_k7 hS103) (ShPlan_l7 hS138) (ShPlan_l7 hS103) (by decide) (bt rfl) rfl (fun M516 p517 r518 => ?_)
  refine ok_iinc (pc' := 89) (v := 3) (ls' := [aR (O + 38), aR (O + 3), aI 3]) i13_86 rfl rfl rfl rfl <| ok_goto (pc' := 61) i13_89 rfl <| ok_iloadn (pc' := 62) i13_61 rfl rfl <| ok_bipush (v := 6) (pc' := 64) i13_62 rfl rfl <| ok_kc0 (pc1 := 92) (pc2 := 67) i13_64 (by decide) rfl rfl <| ok_aloadn (pc' := 68) i13_67 rfl rfl <| ok_getfr (r := ((O + 3) + 4)) (pc' := 71) i13_68 o13 gr4_23 (ShPlan_k0 hS103) (ShPlan_r5 hS103) rfl <| ok_iloadn (pc' := 72) i13_71 rfl rfl <| ?_
  refine ok_aaload (r := ((O + 3) + 8)) (pc' := 73) i13_72 (ShPlan_k4 hS103) (by decide) (ShPlan_l4 hS103) (by decide) (ShPlan_e4_3 hS103) rfl <| ok_iconst (pc' := 74) i13_73 rfl <| ok_aloadn (pc' := 75) i13_74 rfl rfl <| ok_getfr (r := ((O + 38) + 4)) (pc' := 78) i13_75 o13 gr4_23 (ShPlan_k0 hS138) (ShPlan_r5 hS138) rfl <| ok_iloadn (pc' := 79) i13_78 rfl rfl <| ok_aaload (r := ((O + 38) + 8)) (pc' := 80) i13_79 (ShPlan_k4 hS138) (by decide) (ShPlan_l4 hS138) (by decide) (ShPlan_e4_3 hS138) rfl <| ok_iconst (pc' := 81) i13_80 rfl <| ok_bipush (v := 6) (pc' := 83) i13_81 rfl rfl <| ?_
  refine ok_acopyW (pc' := 86) i13_83 o13 m4_33 (ShPlan_k8 hS138) (ShPlan_k8 hS103) (ShPlan_l8 hS138) (ShPlan_l8 hS103) (by decide) (bt rfl) rfl (fun M519 p520 r521 => ?_)
  refine ok_iinc (pc' := 89) (v := 4) (ls' := [aR (O + 38), aR (O + 3), aI 4]) i13_86 rfl rfl rfl rfl <| ok_goto (pc' := 61) i13_89 rfl <| ok_iloadn (pc' := 62) i13_61 rfl rfl <| ok_bipush (v := 6) (pc' := 64) i13_62 rfl rfl <| ok_kc0 (pc1 := 92) (pc2 := 67) i13_64 (by decide) rfl rfl <| ok_aloadn (pc' := 68) i13_67 rfl rfl <| ok_getfr (r := ((O + 3) + 4)) (pc' := 71) i13_68 o13 gr4_23 (ShPlan_k0 hS103) (ShPlan_r5 hS103) rfl <| ok_iloadn (pc' := 72) i13_71 rfl rfl <| ?_
  refine ok_aaload (r := ((O + 3) + 9)) (pc' := 73) i13_72 (ShPlan_k4 hS103) (by decide) (ShPlan_l4 hS103) (by decide) (ShPlan_e4_4 hS103) rfl <| ok_iconst (pc' := 74) i13_73 rfl <| ok_aloadn (pc' := 75) i13_74 rfl rfl <| ok_getfr (r := ((O + 38) + 4)) (pc' := 78) i13_75 o13 gr4_23 (ShPlan_k0 hS138) (ShPlan_r5 hS138) rfl <| ok_iloadn (pc' := 79) i13_78 rfl rfl <| ok_aaload (r := ((O + 38) + 9)) (pc' := 80) i13_79 (ShPlan_k4 hS138) (by decide) (ShPlan_l4 hS138) (by decide) (ShPlan_e4_4 hS138) rfl <| ok_iconst (pc' := 81) i13_80 rfl <| ok_bipush (v := 6) (pc' := 83) i13_81 rfl rfl <| ?_
  refine ok_acopyW (pc' := 86) i13_83 o13 m4_33 (ShPlan_k9 hS138) (ShPlan_k9 hS103) (ShPlan_l9 hS138) (ShPlan_l9 hS103) (by decide) (bt rfl) rfl (fun M522 p523 r524 => ?_)
  refine ok_iinc (pc' := 89) (v := 5) (ls' := [aR (O + 38), aR (O + 3), aI 5]) i13_86 rfl rfl rfl rfl <| ok_goto (pc' := 61) i13_89 rfl <| ok_iloadn (pc' := 62) i13_61 rfl rfl <| ok_bipush (v := 6) (pc' := 64) i13_62 rfl rfl <| ok_kc0 (pc1 := 92) (pc2 := 67) i13_64 (by decide) rfl rfl <| ok_aloadn (pc' := 68) i13_67 rfl rfl <| ok_getfr (r := ((O + 3) + 4)) (pc' := 71) i13_68 o13 gr4_23 (ShPlan_k0 hS103) (ShPlan_r5 hS103) rfl <| ok_iloadn (pc' := 72) i13_71 rfl rfl <| ?_
  refine ok_aaload (r := ((O + 3) + 10)) (pc' := 73) i13_72 (ShPlan_k4 hS103) (by decide) (ShPlan_l4 hS103) (by decide) (ShPlan_e4_5 hS103) rfl <| ok_iconst (pc' := 74) i13_73 rfl <| ok_aloadn (pc' := 75) i13_74 rfl rfl <| ok_getfr (r := ((O + 38) + 4)) (pc' := 78) i13_75 o13 gr4_23 (ShPlan_k0 hS138) (ShPlan_r5 hS138) rfl <| ok_iloadn (pc' := 79) i13_78 rfl rfl <| ok_aaload (r := ((O + 38) + 10)) (pc' := 80) i13_79 (ShPlan_k4 hS138) (by decide) (ShPlan_l4 hS138) (by decide) (ShPlan_e4_5 hS138) rfl <| ok_iconst (pc' := 81) i13_80 rfl <| ok_bipush (v := 6) (pc' := 83) i13_81 rfl rfl <| ?_
  refine ok_acopyW (pc' := 86) i13_83 o13 m4_33 (ShPlan_k10 hS138) (ShPlan_k10 hS103) (ShPlan_l10 hS138) (ShPlan_l10 hS103) (by decide) (bt rfl) rfl (fun M525 p526 r527 => ?_)
  refine ok_iinc (pc' := 89) (v := 6) (ls' := [aR (O + 38), aR (O + 3), aI 6]) i13_86 rfl rfl rfl rfl <| ok_goto (pc' := 61) i13_89 rfl <| ok_iloadn (pc' := 62) i13_61 rfl rfl <| ok_bipush (v := 6) (pc' := 64) i13_62 rfl rfl <| ok_kc1 (pc1 := 92) (pc2 := 67) i13_64 (by decide) rfl rfl <| ok_vret i13_92 rt13 <| ?_
  have hCM501_103 : RepP M501 (O + 3) q := RepP.fr hPP (fun a h1 h2 => (r503 a (by omega)).trans (by rw [up2_na (by omega), up2_na (by omega)]))
  have hCM504_103 : RepP M504 (O + 3) q := RepP.fr hCM501_103 (fun a h1 h2 => (r506 a (by omega)).trans rfl)
  have hCM507_103 : RepP M507 (O + 3) q := RepP.fr hCM504_103 (fun a h1 h2 => (r509 a (by omega)).trans rfl)
  have hCM510_103 : RepP M510 (O + 3) q := RepP.fr hCM507_103 (fun a h1 h2 => (r512 a (by omega)).trans rfl)
  have hCM513_103 : RepP M513 (O + 3) q := RepP.fr hCM510_103 (fun a h1 h2 => (r515 a (by omega)).trans rfl)
  have hCM516_103 : RepP M516 (O + 3) q := RepP.fr hCM513_103 (fun a h1 h2 => (r518 a (by omega)).trans rfl)
  have hCM519_103 : RepP M519 (O + 3) q := RepP.fr hCM516_103 (fun a h1 h2 => (r521 a (by omega)).trans rfl)
  have hCM522_103 : RepP M522 (O + 3) q := RepP.fr hCM519_103 (fun a h1 h2 => (r524 a (by omega)).trans rfl)
  refine ⟨rfl, rfl, ⟨?_, ?_, fun i h0 h1 => ?_, fun i h0 h1 => ?_, fun i h0 h1 => ?_, fun w hw hwq i h0 h1 => ?_⟩, fun c hc => ?_⟩
  · exact (Eq.trans (congrFun (r527 (O + 38) (by omega)) 0) (Eq.trans (congrFun (r524 (O + 38) (by omega)) 0) (Eq.trans (congrFun (r521 (O + 38) (by omega)) 0) (Eq.trans (congrFun (r518 (O + 38) (by omega)) 0) (Eq.trans (congrFun (r515 (O + 38) (by omega)) 0) (Eq.trans (congrFun (r512 (O + 38) (by omega)) 0) (Eq.trans (congrFun (r509 (O + 38) (by omega)) 0) (Eq.trans (congrFun (r506 (O + 38) (by omega)) 0) (Eq.trans (congrFun (r503 (O + 38) (by omega)) 0) (rd_ni (by decide) rd_eq))))))))))
  · exact (Eq.trans (congrFun (r527 (O + 38) (by omega)) 3) (Eq.trans (congrFun (r524 (O + 38) (by omega)) 3) (Eq.trans (congrFun (r521 (O + 38) (by omega)) 3) (Eq.trans (congrFun (r518 (O + 38) (by omega)) 3) (Eq.trans (congrFun (r515 (O + 38) (by omega)) 3) (Eq.trans (congrFun (r512 (O + 38) (by omega)) 3) (Eq.trans (congrFun (r509 (O + 38) (by omega)) 3) (Eq.trans (congrFun (r506 (O + 38) (by omega)) 3) (Eq.trans (congrFun (r503 (O + 38) (by omega)) 3) rd_eq)))))))))
  · exact (Eq.trans (congrFun (r527 (O + 38 + 1) (by omega)) i) (Eq.trans (congrFun (r524 (O + 38 + 1) (by omega)) i) (Eq.trans (congrFun (r521 (O + 38 + 1) (by omega)) i) (Eq.trans (congrFun (r518 (O + 38 + 1) (by omega)) i) (Eq.trans (congrFun (r515 (O + 38 + 1) (by omega)) i) (Eq.trans (congrFun (r512 (O + 38 + 1) (by omega)) i) (Eq.trans (congrFun (r509 (O + 38 + 1) (by omega)) i) (Eq.trans (congrFun (r506 (O + 38 + 1) (by omega)) i) (Eq.trans (p502 i (by omega) (by omega)) (rd_na (by omega) (rd_na (by omega) (RepP_1 hPP (by omega) (by omega)))))))))))))
  · exact (Eq.trans (congrFun (r527 (O + 38 + 2) (by omega)) i) (Eq.trans (congrFun (r524 (O + 38 + 2) (by omega)) i) (Eq.trans (congrFun (r521 (O + 38 + 2) (by omega)) i) (Eq.trans (congrFun (r518 (O + 38 + 2) (by omega)) i) (Eq.trans (congrFun (r515 (O + 38 + 2) (by omega)) i) (Eq.trans (congrFun (r512 (O + 38 + 2) (by omega)) i) (Eq.trans (congrFun (r509 (O + 38 + 2) (by omega)) i) (Eq.trans (p505 i (by omega) (by omega)) (RepP_2 hCM501_103 (by omega) (by omega))))))))))
  · exact (Eq.trans (congrFun (r527 (O + 38 + 3) (by omega)) i) (Eq.trans (congrFun (r524 (O + 38 + 3) (by omega)) i) (Eq.trans (congrFun (r521 (O + 38 + 3) (by omega)) i) (Eq.trans (congrFun (r518 (O + 38 + 3) (by omega)) i) (Eq.trans (congrFun (r515 (O + 38 + 3) (by omega)) i) (Eq.trans (congrFun (r512 (O + 38 + 3) (by omega)) i) (Eq.trans (p508 i (by omega) (by omega)) (RepP_3 hCM504_103 (by omega) (by omega)))))))))
  · have hq10 := Q_10 hQ (i := (w : Int)) (by omega) hwq
    rcases (show w = 0 ∨ w = 1 ∨ w = 2 ∨ w = 3 ∨ w = 4 ∨ w = 5 by omega) with rfl | rfl | rfl | rfl | rfl | rfl
    · exact (Eq.trans (congrFun (r527 (O + 38 + 5) (by omega)) i) (Eq.trans (congrFun (r524 (O + 38 + 5) (by omega)) i) (Eq.trans (congrFun (r521 (O + 38 + 5) (by omega)) i) (Eq.trans (congrFun (r518 (O + 38 + 5) (by omega)) i) (Eq.trans (congrFun (r515 (O + 38 + 5) (by omega)) i) (Eq.trans (p511 i (by omega) (by omega)) (Eq.trans (congrFun (r509 (O + 3 + 5) (by omega)) i) (Eq.trans (congrFun (r506 (O + 3 + 5) (by omega)) i) (Eq.trans (congrFun (r503 (O + 3 + 5) (by omega)) i) (rd_na (by omega) (rd_na (by omega) (hPP.2.2.2.2.2 0 (by decide) hwq i h0 h1))))))))))))
    · exact (Eq.trans (congrFun (r527 (O + 38 + 6) (by omega)) i) (Eq.trans (congrFun (r524 (O + 38 + 6) (by omega)) i) (Eq.trans (congrFun (r521 (O + 38 + 6) (by omega)) i) (Eq.trans (congrFun (r518 (O + 38 + 6) (by omega)) i) (Eq.trans (p514 i (by omega) (by omega)) (Eq.trans (congrFun (r512 (O + 3 + 6) (by omega)) i) (Eq.trans (congrFun (r509 (O + 3 + 6) (by omega)) i) (Eq.trans (congrFun (r506 (O + 3 + 6) (by omega)) i) (Eq.trans (congrFun (r503 (O + 3 + 6) (by omega)) i) (rd_na (by omega) (rd_na (by omega) (hPP.2.2.2.2.2 1 (by decide) hwq i h0 h1))))))))))))
    · exact (Eq.trans (congrFun (r527 (O + 38 + 7) (by omega)) i) (Eq.trans (congrFun (r524 (O + 38 + 7) (by omega)) i) (Eq.trans (congrFun (r521 (O + 38 + 7) (by omega)) i) (Eq.trans (p517 i (by omega) (by omega)) (Eq.trans (congrFun (r515 (O + 3 + 7) (by omega)) i) (Eq.trans (congrFun (r512 (O + 3 + 7) (by omega)) i) (Eq.trans (congrFun (r509 (O + 3 + 7) (by omega)) i) (Eq.trans (congrFun (r506 (O + 3 + 7) (by omega)) i) (Eq.trans (congrFun (r503 (O + 3 + 7) (by omega)) i) (rd_na (by omega) (rd_na (by omega) (hPP.2.2.2.2.2 2 (by decide) hwq i h0 h1))))))))))))
    · exact (Eq.trans (congrFun (r527 (O + 38 + 8) (by omega)) i) (Eq.trans (congrFun (r524 (O + 38 + 8) (by omega)) i) (Eq.trans (p520 i (by omega) (by omega)) (Eq.trans (congrFun (r518 (O + 3 + 8) (by omega)) i) (Eq.trans (congrFun (r515 (O + 3 + 8) (by omega)) i) (Eq.trans (congrFun (r512 (O + 3 + 8) (by omega)) i) (Eq.trans (congrFun (r509 (O + 3 + 8) (by omega)) i) (Eq.trans (congrFun (r506 (O + 3 + 8) (by omega)) i) (Eq.trans (congrFun (r503 (O + 3 + 8) (by omega)) i) (rd_na (by omega) (rd_na (by omega) (hPP.2.2.2.2.2 3 (by decide) hwq i h0 h1))))))))))))
    · exact (Eq.trans (congrFun (r527 (O + 38 + 9) (by omega)) i) (Eq.trans (p523 i (by omega) (by omega)) (Eq.trans (congrFun (r521 (O + 3 + 9) (by omega)) i) (Eq.trans (congrFun (r518 (O + 3 + 9) (by omega)) i) (Eq.trans (congrFun (r515 (O + 3 + 9) (by omega)) i) (Eq.trans (congrFun (r512 (O + 3 + 9) (by omega)) i) (Eq.trans (congrFun (r509 (O + 3 + 9) (by omega)) i) (Eq.trans (congrFun (r506 (O + 3 + 9) (by omega)) i) (Eq.trans (congrFun (r503 (O + 3 + 9) (by omega)) i) (rd_na (by omega) (rd_na (by omega) (hPP.2.2.2.2.2 4 (by decide) hwq i h0 h1))))))))))))
    · exact (Eq.trans (p526 i (by omega) (by omega)) (Eq.trans (congrFun (r524 (O + 3 + 10) (by omega)) i) (Eq.trans (congrFun (r521 (O + 3 + 10) (by omega)) i) (Eq.trans (congrFun (r518 (O + 3 + 10) (by omega)) i) (Eq.trans (congrFun (r515 (O + 3 + 10) (by omega)) i) (Eq.trans (congrFun (r512 (O + 3 + 10) (by omega)) i) (Eq.trans (congrFun (r509 (O + 3 + 10) (by omega)) i) (Eq.trans (congrFun (r506 (O + 3 + 10) (by omega)) i) (Eq.trans (congrFun (r503 (O + 3 + 10) (by omega)) i) (rd_na (by omega) (rd_na (by omega) (hPP.2.2.2.2.2 5 (by decide) hwq i h0 h1))))))))))))
  · rw [r527 c (by omega), r524 c (by omega), r521 c (by omega), r518 c (by omega), r515 c (by omega), r512 c (by omega), r509 c (by omega), r506 c (by omega), r503 c (by omega), up2_na (by omega), up2_na (by omega)]

theorem ushr_p {x : Int} (h : 0 ≤ x ∧ x < 2147483648) (k : Nat) {y : Int} (hy : ((Int32.ofInt y).toUInt32 &&& Int32.toUInt32 31).toNat % 32 = k) : am_ushr x y = x / (2 ^ k : Nat) := by
  obtain ⟨U, hU, hl, hx⟩ := i32_nat (x := x) (by omega)
  have hx2 : x = (U : Int) := by split at hx <;> omega
  rw [ushr_eq hU hl k hy (Nat.lt_of_le_of_lt (Nat.div_le_self _ _) (by omega)), hx2]
  rfl
theorem shl8 {x : Int} (h : 0 ≤ x ∧ x < 8388608) : am_shl x 8 = 256 * x := by
  obtain ⟨U, hU, hl, hx⟩ := i32_nat (x := x) (by omega)
  have hx2 : x = (U : Int) := by split at hx <;> omega
  have e : am_shl x 8 = ((Int32.ofInt x).toBitVec <<< ((Int32.ofInt 8 &&& 31).toBitVec.smod 32)).toInt := rfl
  have hk : ((Int32.ofInt 8 &&& 31).toBitVec.smod 32).toNat = 8 := by decide
  have e2 : ((Int32.ofInt x).toBitVec <<< ((Int32.ofInt 8 &&& 31).toBitVec.smod 32)).toNat = U * 256 := by
    rw [BitVec.shiftLeft_eq', BitVec.toNat_shiftLeft, hk, hU, Nat.shiftLeft_eq]
    omega
  rw [e, BitVec.toInt_eq_toNat_bmod, e2, show (2 ^ 32 : Nat) = 4294967296 from rfl, bm_4 _ (by omega), if_pos (by omega), hx2]
  omega
theorem or8 {x c : Int} (h : 0 ≤ x ∧ x < 8388608) (hc : 0 ≤ c ∧ c < 256) : am_or (256 * x) c = 256 * x + c := by
  obtain ⟨U, hU, hl, hx⟩ := i32_nat (x := 256 * x) (by omega)
  obtain ⟨W, hW, hl2, hy⟩ := i32_nat (x := c) (by omega)
  have hx2 : 256 * x = (U : Int) := by split at hx <;> omega
  have hy2 : c = (W : Int) := by split at hy <;> omega
  have e : am_or (256 * x) c = ((Int32.ofInt (256 * x)).toBitVec ||| (Int32.ofInt c).toBitVec).toInt := rfl
  have e2 : ((Int32.ofInt (256 * x)).toBitVec ||| (Int32.ofInt c).toBitVec).toNat = U + W := by
    rw [BitVec.toNat_or, hU, hW]
    have h1 : U = (x.toNat) <<< 8 := by rw [Nat.shiftLeft_eq]; omega
    rw [h1]
    exact (Nat.shiftLeft_add_eq_or_of_lt (show W < 2 ^ 8 by omega) x.toNat).symm
  rw [e, BitVec.toInt_eq_toNat_bmod, e2, show (2 ^ 32 : Nat) = 4294967296 from rfl, bm_4 _ (by omega), if_pos (by omega)]
  omega
