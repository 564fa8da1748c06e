/-! FLOATS: quotients of whole numbers; meanLoss, shareUsed (by program, wip/p60/gen) -/
theorem num64 {a : UInt64} (h : Jvm.FP.Core.dIsNaN a = false) : a &&& 0x7fffffffffffffff ≤ 0x7ff0000000000000 := by
  have h1 : ¬ (9218868437227405312 < a.toNat % 2 ^ 63) := fun hc => by
    rw [(Jvm.FP.Core.isNaN_bits a).mpr hc] at h
    cases h
  rw [UInt64.le_iff_toNat_le, UInt64.toNat_and]
  have e : a.toNat &&& (0x7fffffffffffffff : UInt64).toNat = a.toNat % 2 ^ 63 := Nat.and_two_pow_sub_one_eq_mod a.toNat 63
  rw [e]
  show a.toNat % 2 ^ 63 ≤ 9218868437227405312
  omega
theorem num32 {a : UInt32} (h : Jvm.FP.Core.fIsNaN a = false) : a &&& 0x7fffffff ≤ 0x7f800000 := by
  have h1 : ¬ (2139095040 < a.toNat % 2 ^ 31) := fun hc => by
    rw [(Jvm.FP.Core.isNaN_bits32 a).mpr hc] at h
    cases h
  rw [UInt32.le_iff_toNat_le, UInt32.toNat_and]
  have e : a.toNat &&& (0x7fffffff : UInt32).toNat = a.toNat % 2 ^ 31 := Nat.and_two_pow_sub_one_eq_mod a.toNat 31
  rw [e]
  show a.toNat % 2 ^ 31 ≤ 2139095040
  omega
theorem am_d_nat (a : UInt64) : am_d (a.toNat : Int) = a := by unfold am_d; rw [Int.toNat_natCast, UInt64.ofNat_toNat]
theorem am_f_nat (a : UInt32) : am_f (a.toNat : Int) = a := by unfold am_f; rw [Int.toNat_natCast, UInt32.ofNat_toNat]
def i2dN (x : Int) : Int := ((FP.i2d (Int32.ofInt x)).toNat : Int)
def i2fN (x : Int) : Int := ((FP.i2f (Int32.ofInt x)).toNat : Int)
def ddq (x y : Int) : Int := ((FP.ddiv (FP.i2d (Int32.ofInt x)) (FP.i2d (Int32.ofInt y))).toNat : Int)
def fdq (x y : Int) : Int := ((FP.fdiv (FP.i2f (Int32.ofInt x)) (FP.i2f (Int32.ofInt y))).toNat : Int)
def NN (z : Int) : Prop := Jvm.FP.Core.dIsNaN (am_d z) = false
def NF (z : Int) : Prop := Jvm.FP.Core.fIsNaN (am_f z) = false
theorem ofI_ne {y : Int} (h : wr y ≠ 0) : Int32.ofInt y ≠ 0 := fun e => h (by
  have e1 : (Int32.ofInt y).toInt = 0 := by rw [e]; rfl
  rw [Int32.toInt_ofInt] at e1
  exact e1)
theorem ddq_nn {x y : Int} (h : wr y ≠ 0) : NN (ddq x y) := by
  unfold NN ddq
  rw [am_d_nat]
  exact Jvm.FP.Core.ddiv_out (Jvm.FP.Core.i2d_fin _).notNaN (Jvm.FP.Core.i2d_fin _) (fun hz => Jvm.FP.Core.i2d_ne_zero (ofI_ne h) ((Jvm.FP.Core.zero_bits2 _).mp hz))
theorem fdq_nf {x y : Int} (h : wr y ≠ 0) : NF (fdq x y) := by
  unfold NF fdq
  rw [am_f_nat]
  exact Jvm.FP.Core.fdiv_out (Jvm.FP.Core.i2f_fin _).notNaN (Jvm.FP.Core.i2f_fin _) (fun hz => Jvm.FP.Core.i2f_ne_zero (ofI_ne h) ((Jvm.FP.Core.zero_bits232 _).mp hz))
theorem nn0 : NN 0 := by unfold NN; decide +kernel
theorem nf0 : NF 0 := by unfold NF; decide +kernel
section OK
variable {d mi pc pc' : Nat} {ls st : List AV} {g : AG} {M : AM} {Q : AO → AG → AM → Prop}
theorem ok_dconst0 (hi : am_ins mi pc = some (.dconst 0)) (hp : pc + 1 = pc') (k : Ok d mi pc' ls (aD 0 :: st) g M Q) : Ok d mi pc ls st g M Q := ok_step hi rfl rfl (by subst hp; rfl) k
theorem ok_fconst0 (hi : am_ins mi pc = some (.fconst 0)) (hp : pc + 1 = pc') (k : Ok d mi pc' ls (aF 0 :: st) g M Q) : Ok d mi pc ls st g M Q := ok_step hi rfl rfl (by subst hp; rfl) k
theorem ok_i2d {x : Int} (hi : am_ins mi pc = some .i2d) (hp : pc + 1 = pc') (k : Ok d mi pc' ls (aD (i2dN x) :: st) g M Q) : Ok d mi pc ls (aI x :: st) g M Q := ok_step hi rfl rfl (by subst hp; rfl) k
theorem ok_i2f {x : Int} (hi : am_ins mi pc = some .i2f) (hp : pc + 1 = pc') (k : Ok d mi pc' ls (aF (i2fN x) :: st) g M Q) : Ok d mi pc ls (aI x :: st) g M Q := ok_step hi rfl rfl (by subst hp; rfl) k
theorem ok_ddivq {x y : Int} (hi : am_ins mi pc = some .ddiv) (hy : wr y ≠ 0) (hp : pc + 1 = pc') (k : Ok d mi pc' ls (aD (ddq x y) :: st) g M Q) : Ok d mi pc ls (aD (i2dN y) :: aD (i2dN x) :: st) g M Q := by
  have h := ddq_nn (x := x) hy
  unfold NN ddq at h
  rw [am_d_nat] at h
  refine ok_step hi rfl rfl ?_ k
  show (if FP.ddiv (am_d (i2dN x)) (am_d (i2dN y)) &&& 0x7fffffffffffffff ≤ 0x7ff0000000000000 then _ else _) = _
  unfold i2dN
  rw [am_d_nat, am_d_nat, if_pos (num64 h), hp]
  rfl
theorem ok_fdivq {x y : Int} (hi : am_ins mi pc = some .fdiv) (hy : wr y ≠ 0) (hp : pc + 1 = pc') (k : Ok d mi pc' ls (aF (fdq x y) :: st) g M Q) : Ok d mi pc ls (aF (i2fN y) :: aF (i2fN x) :: st) g M Q := by
  have h := fdq_nf (x := x) hy
  unfold NF fdq at h
  rw [am_f_nat] at h
  refine ok_step hi rfl rfl ?_ k
  show (if FP.fdiv (am_f (i2fN x)) (am_f (i2fN y)) &&& 0x7fffffff ≤ 0x7f800000 then _ else _) = _
  unfold i2fN
  rw [am_f_nat, am_f_nat, if_pos (num32 h), hp]
  rfl
theorem ok_dcmp0 {z : Int} {o : ClassFile.CmpOp} (hi : am_ins mi pc = some (.dcmp o)) (hz : NN z) (hp : pc + 1 = pc') (k : Ok d mi pc' ls (aI 0 :: st) g M Q) : Ok d mi pc ls (aD z :: aD z :: st) g M Q := by
  refine ok_step hi rfl rfl ?_ k
  show some (pc + 1, ls, aI (Op.cmpValue (FP.dcmp (am_d z) (am_d z)) o).toInt :: st, g, M) = _
  have e : FP.dcmp (am_d z) (am_d z) = some .eq := Jvm.FP.Core.dcmp_self ((Jvm.FP.Core.notNaN_iff _).mp hz)
  rw [e, hp]
  cases o <;> rfl
theorem ok_fcmp0 {z : Int} {o : ClassFile.CmpOp} (hi : am_ins mi pc = some (.fcmp o)) (hz : NF z) (hp : pc + 1 = pc') (k : Ok d mi pc' ls (aI 0 :: st) g M Q) : Ok d mi pc ls (aF z :: aF z :: st) g M Q := by
  refine ok_step hi rfl rfl ?_ k
  show some (pc + 1, ls, aI (Op.cmpValue (FP.fcmp (am_f z) (am_f z)) o).toInt :: st, g, M) = _
  have e : FP.fcmp (am_f z) (am_f z) = some .eq := Jvm.FP.Core.fcmp_self ((Jvm.FP.Core.notNaN_iff32 _).mp hz)
  rw [e, hp]
  cases o <;> rfl
theorem ok_dret {x : Int} (hi : am_ins mi pc = some .dreturn) (ht : am_rt mi = some .double) (q : Q (.inl (some (aD x))) g M) : Ok d mi pc ls [aD x] g M Q := ok_ret hi (by unfold am_ret; dsimp only; rw [ht]; rfl) q
theorem ok_fret {x : Int} (hi : am_ins mi pc = some .freturn) (ht : am_rt mi = some .float) (q : Q (.inl (some (aF x))) g M) : Ok d mi pc ls [aF x] g M Q := ok_ret hi (by unfold am_ret; dsimp only; rw [ht]; rfl) q
end OK
theorem o136 : am_oc 136 = 0 := by decide +kernel
theorem rt136 : am_rt 136 = some .double := by decide +kernel
theorem o137 : am_oc 137 = 0 := by decide +kernel
theorem rt137 : am_rt 137 = some .float := by decide +kernel
theorem y136_0 {g : AG} {M : AM} {O : Nat} {q s : Int → Int} {b : Int} (hG : CG g O) (hM : CM M O b q s) (hw : wr (s 11) = 0) : Ok 1 136 0 [aR O, aU] [] g M (Rt (some (aD 0)) g (fun M9 => M9 = M)) := by
  have hV := hM.v
  have hQ := V_q hV
  have y3 := V_3 hV
  have y4 := V_4 hV
  have y5 := V_5 hV
  have yq0 := Q_0 hQ
  have yq1 := Q_1 hQ
  refine ok_aloadn (pc' := 1) i136_0 rfl rfl <| ok_cc i136_1 rfl (cl_v o136 m0_132 na99 rfl rfl (bt rfl) (bt rfl) rfl (by rw [ShYard_k0 hG.y, o99])) ln99 (pd99 (aR O)) <| ok_aloadn (pc' := 1) i99_0 rfl rfl <| ok_getfi (v := 1) (pc' := 4) i99_1 o99 gi0_268 (ShYard_k0 hG.y) (hM.l) rfl <| ok_kz1 (pc1 := 18) (pc2 := 7) i99_4 (by decide) rfl rfl <| ok_vret i99_18 rt99 <| kt_0 (pc' := 4) rfl <| ok_aloadn (pc' := 5) i136_4 rfl rfl <| ?_
  refine ok_getfr (r := (O + 49)) (pc' := 8) i136_5 o136 gr0_39 (ShYard_k0 hG.y) (ShYard_r8 hG.y) rfl <| ok_getfr (r := (O + 49 + 23)) (pc' := 11) i136_8 o136 gr0_265 (ShState_k0 hG.s) (ShState_r9 hG.s) rfl <| ok_iconst (pc' := 12) i136_11 rfl <| ok_iaload (v := (s 11)) (pc' := 13) i136_12 (ShState_k23 hG.s) (by decide) (ShState_l23 hG.s) (by decide) ((RepS_23 hM.s (i := 5) (by omega) (by omega))) rfl <| ok_istoren (pc' := 14) (ls' := [aR O, aI (s 11)]) i136_13 (bt rfl) rfl rfl <| ok_iloadn (pc' := 15) i136_14 rfl rfl <| ?_
  refine ok_znew (pc1 := 20) (pc2 := 18) i136_15 rfl rfl (fun h9 => by first | exact absurd hw h9 | exact absurd h9 hw) (fun _ => ?_)
  refine ok_dconst0 (pc' := 19) i136_18 rfl <| ok_dret i136_19 rt136 <| ?_
  exact ⟨rfl, rfl, rfl⟩
theorem y136_1 {g : AG} {M : AM} {O : Nat} {q s : Int → Int} {b : Int} (hG : CG g O) (hM : CM M O b q s) (hw : wr (s 11) ≠ 0) : Ok 1 136 0 [aR O, aU] [] g M (Rt (some (aD (ddq (s 9) (s 11)))) g (fun M9 => M9 = M)) := by
  have hV := hM.v
  have hQ := V_q hV
  have y3 := V_3 hV
  have y4 := V_4 hV
  have y5 := V_5 hV
  have yq0 := Q_0 hQ
  have yq1 := Q_1 hQ
  refine ok_aloadn (pc' := 1) i136_0 rfl rfl <| ok_cc i136_1 rfl (cl_v o136 m0_132 na99 rfl rfl (bt rfl) (bt rfl) rfl (by rw [ShYard_k0 hG.y, o99])) ln99 (pd99 (aR O)) <| ok_aloadn (pc' := 1) i99_0 rfl rfl <| ok_getfi (v := 1) (pc' := 4) i99_1 o99 gi0_268 (ShYard_k0 hG.y) (hM.l) rfl <| ok_kz1 (pc1 := 18) (pc2 := 7) i99_4 (by decide) rfl rfl <| ok_vret i99_18 rt99 <| kt_0 (pc' := 4) rfl <| ok_aloadn (pc' := 5) i136_4 rfl rfl <| ?_
  refine ok_getfr (r := (O + 49)) (pc' := 8) i136_5 o136 gr0_39 (ShYard_k0 hG.y) (ShYard_r8 hG.y) rfl <| ok_getfr (r := (O + 49 + 23)) (pc' := 11) i136_8 o136 gr0_265 (ShState_k0 hG.s) (ShState_r9 hG.s) rfl <| ok_iconst (pc' := 12) i136_11 rfl <| ok_iaload (v := (s 11)) (pc' := 13) i136_12 (ShState_k23 hG.s) (by decide) (ShState_l23 hG.s) (by decide) ((RepS_23 hM.s (i := 5) (by omega) (by omega))) rfl <| ok_istoren (pc' := 14) (ls' := [aR O, aI (s 11)]) i136_13 (bt rfl) rfl rfl <| ok_iloadn (pc' := 15) i136_14 rfl rfl <| ?_
  refine ok_znew (pc1 := 20) (pc2 := 18) i136_15 rfl rfl (fun _ => ?_) (fun h9 => by first | exact absurd hw h9 | exact absurd h9 hw)
  refine ok_aloadn (pc' := 21) i136_20 rfl rfl <| ok_getfr (r := (O + 49)) (pc' := 24) i136_21 o136 gr0_39 (ShYard_k0 hG.y) (ShYard_r8 hG.y) rfl <| ok_getfr (r := (O + 49 + 23)) (pc' := 27) i136_24 o136 gr0_265 (ShState_k0 hG.s) (ShState_r9 hG.s) rfl <| ok_iconst (pc' := 28) i136_27 rfl <| ok_iaload (v := (s 9)) (pc' := 29) i136_28 (ShState_k23 hG.s) (by decide) (ShState_l23 hG.s) (by decide) ((RepS_23 hM.s (i := 3) (by omega) (by omega))) rfl <| ok_i2d (pc' := 30) i136_29 rfl <| ok_iloadn (pc' := 31) i136_30 rfl rfl <| ok_i2d (pc' := 32) i136_31 rfl <| ?_
  refine ok_ddivq (pc' := 33) i136_32 hw rfl <| ok_dret i136_33 rt136 <| ?_
  exact ⟨rfl, rfl, rfl⟩
theorem y137_0 {g : AG} {M : AM} {O : Nat} {q s : Int → Int} {b : Int} (hG : CG g O) (hM : CM M O b q s) (hw : wr (((s 13) + (s 7)) + (s 8)) = 0) : Ok 1 137 0 [aR O, aU, aU] [] g M (Rt (some (aF 0)) g (fun M9 => M9 = M)) := by
  have hV := hM.v
  have hQ := V_q hV
  have y3 := V_3 hV
  have y4 := V_4 hV
  have y5 := V_5 hV
  have yq0 := Q_0 hQ
  have yq1 := Q_1 hQ
  refine ok_aloadn (pc' := 1) i137_0 rfl rfl <| ok_cc i137_1 rfl (cl_v o137 m0_132 na99 rfl rfl (bt rfl) (bt rfl) rfl (by rw [ShYard_k0 hG.y, o99])) ln99 (pd99 (aR O)) <| ok_aloadn (pc' := 1) i99_0 rfl rfl <| ok_getfi (v := 1) (pc' := 4) i99_1 o99 gi0_268 (ShYard_k0 hG.y) (hM.l) rfl <| ok_kz1 (pc1 := 18) (pc2 := 7) i99_4 (by decide) rfl rfl <| ok_vret i99_18 rt99 <| kt_0 (pc' := 4) rfl <| ok_aloadn (pc' := 5) i137_4 rfl rfl <| ?_
  refine ok_getfr (r := (O + 49)) (pc' := 8) i137_5 o137 gr0_39 (ShYard_k0 hG.y) (ShYard_r8 hG.y) rfl <| ok_getfr (r := (O + 49 + 23)) (pc' := 11) i137_8 o137 gr0_265 (ShState_k0 hG.s) (ShState_r9 hG.s) rfl <| ok_bipush (v := 7) (pc' := 13) i137_11 rfl rfl <| ok_iaload (v := (s 13)) (pc' := 14) i137_13 (ShState_k23 hG.s) (by decide) (ShState_l23 hG.s) (by decide) ((RepS_23 hM.s (i := 7) (by omega) (by omega))) rfl <| ok_istoren (pc' := 15) (ls' := [aR O, aI (s 13), aU]) i137_14 (bt rfl) rfl rfl <| ok_iloadn (pc' := 16) i137_15 rfl rfl <| ok_aloadn (pc' := 17) i137_16 rfl rfl <| ok_getfr (r := (O + 49)) (pc' := 20) i137_17 o137 gr0_39 (ShYard_k0 hG.y) (ShYard_r8 hG.y) rfl <| ?_
  refine ok_getfr (r := (O + 49 + 23)) (pc' := 23) i137_20 o137 gr0_265 (ShState_k0 hG.s) (ShState_r9 hG.s) rfl <| ok_iconst (pc' := 24) i137_23 rfl <| ok_iaload (v := (s 7)) (pc' := 25) i137_24 (ShState_k23 hG.s) (by decide) (ShState_l23 hG.s) (by decide) ((RepS_23 hM.s (i := 1) (by omega) (by omega))) rfl <| ok_iadd (v := ((s 13) + (s 7))) (pc' := 26) i137_25 rfl rfl <| ok_aloadn (pc' := 27) i137_26 rfl rfl <| ok_getfr (r := (O + 49)) (pc' := 30) i137_27 o137 gr0_39 (ShYard_k0 hG.y) (ShYard_r8 hG.y) rfl <| ok_getfr (r := (O + 49 + 23)) (pc' := 33) i137_30 o137 gr0_265 (ShState_k0 hG.s) (ShState_r9 hG.s) rfl <| ok_iconst (pc' := 34) i137_33 rfl <| ?_
  refine ok_iaload (v := (s 8)) (pc' := 35) i137_34 (ShState_k23 hG.s) (by decide) (ShState_l23 hG.s) (by decide) ((RepS_23 hM.s (i := 2) (by omega) (by omega))) rfl <| ok_iadd (v := (((s 13) + (s 7)) + (s 8))) (pc' := 36) i137_35 rfl rfl <| ok_istoren (pc' := 37) (ls' := [aR O, aI (s 13), aI (((s 13) + (s 7)) + (s 8))]) i137_36 (bt rfl) rfl rfl <| ok_iloadn (pc' := 38) i137_37 rfl rfl <| ?_
  refine ok_znew (pc1 := 43) (pc2 := 41) i137_38 rfl rfl (fun h9 => by first | exact absurd hw h9 | exact absurd h9 hw) (fun _ => ?_)
  refine ok_fconst0 (pc' := 42) i137_41 rfl <| ok_fret i137_42 rt137 <| ?_
  exact ⟨rfl, rfl, rfl⟩
theorem y137_1 {g : AG} {M : AM} {O : Nat} {q s : Int → Int} {b : Int} (hG : CG g O) (hM : CM M O b q s) (hw : wr (((s 13) + (s 7)) + (s 8)) ≠ 0) : Ok 1 137 0 [aR O, aU, aU] [] g M (Rt (some (aF (fdq (s 13) (((s 13) + (s 7)) + (s 8))))) g (fun M9 => M9 = M)) := by
  have hV := hM.v
  have hQ := V_q hV
  have y3 := V_3 hV
  have y4 := V_4 hV
  have y5 := V_5 hV
  have yq0 := Q_0 hQ
  have yq1 := Q_1 hQ
  refine ok_aloadn (pc' := 1) i137_0 rfl rfl <| ok_cc i137_1 rfl (cl_v o137 m0_132 na99 rfl rfl (bt rfl) (bt rfl) rfl (by rw [ShYard_k0 hG.y, o99])) ln99 (pd99 (aR O)) <| ok_aloadn (pc' := 1) i99_0 rfl rfl <| ok_getfi (v := 1) (pc' := 4) i99_1 o99 gi0_268 (ShYard_k0 hG.y) (hM.l) rfl <| ok_kz1 (pc1 := 18) (pc2 := 7) i99_4 (by decide) rfl rfl <| ok_vret i99_18 rt99 <| kt_0 (pc' := 4) rfl <| ok_aloadn (pc' := 5) i137_4 rfl rfl <| ?_
  refine ok_getfr (r := (O + 49)) (pc' := 8) i137_5 o137 gr0_39 (ShYard_k0 hG.y) (ShYard_r8 hG.y) rfl <| ok_getfr (r := (O + 49 + 23)) (pc' := 11) i137_8 o137 gr0_265 (ShState_k0 hG.s) (ShState_r9 hG.s) rfl <| ok_bipush (v := 7) (pc' := 13) i137_11 rfl rfl <| ok_iaload (v := (s 13)) (pc' := 14) i137_13 (ShState_k23 hG.s) (by decide) (ShState_l23 hG.s) (by decide) ((RepS_23 hM.s (i := 7) (by omega) (by omega))) rfl <| ok_istoren (pc' := 15) (ls' := [aR O, aI (s 13), aU]) i137_14 (bt rfl) rfl rfl <| ok_iloadn (pc' := 16) i137_15 rfl rfl <| ok_aloadn (pc' := 17) i137_16 rfl rfl <| ok_getfr (r := (O + 49)) (pc' := 20) i137_17 o137 gr0_39 (ShYard_k0 hG.y) (ShYard_r8 hG.y) rfl <| ?_
  refine ok_getfr (r := (O + 49 + 23)) (pc' := 23) i137_20 o137 gr0_265 (ShState_k0 hG.s) (ShState_r9 hG.s) rfl <| ok_iconst (pc' := 24) i137_23 rfl <| ok_iaload (v := (s 7)) (pc' := 25) i137_24 (ShState_k23 hG.s) (by decide) (ShState_l23 hG.s) (by decide) ((RepS_23 hM.s (i := 1) (by omega) (by omega))) rfl <| ok_iadd (v := ((s 13) + (s 7))) (pc' := 26) i137_25 rfl rfl <| ok_aloadn (pc' := 27) i137_26 rfl rfl <| ok_getfr (r := (O + 49)) (pc' := 30) i137_27 o137 gr0_39 (ShYard_k0 hG.y) (ShYard_r8 hG.y) rfl <| ok_getfr (r := (O + 49 + 23)) (pc' := 33) i137_30 o137 gr0_265 (ShState_k0 hG.s) (ShState_r9 hG.s) rfl <| ok_iconst (pc' := 34) i137_33 rfl <| ?_
  refine ok_iaload (v := (s 8)) (pc' := 35) i137_34 (ShState_k23 hG.s) (by decide) (ShState_l23 hG.s) (by decide) ((RepS_23 hM.s (i := 2) (by omega) (by omega))) rfl <| ok_iadd (v := (((s 13) + (s 7)) + (s 8))) (pc' := 36) i137_35 rfl rfl <| ok_istoren (pc' := 37) (ls' := [aR O, aI (s 13), aI (((s 13) + (s 7)) + (s 8))]) i137_36 (bt rfl) rfl rfl <| ok_iloadn (pc' := 38) i137_37 rfl rfl <| ?_
  refine ok_znew (pc1 := 43) (pc2 := 41) i137_38 rfl rfl (fun _ => ?_) (fun h9 => by first | exact absurd hw h9 | exact absurd h9 hw)
  refine ok_iloadn (pc' := 44) i137_43 rfl rfl <| ok_i2f (pc' := 45) i137_44 rfl <| ok_iloadn (pc' := 46) i137_45 rfl rfl <| ok_i2f (pc' := 47) i137_46 rfl <| ok_fdivq (pc' := 48) i137_47 hw rfl <| ok_fret i137_48 rt137 <| ?_
  exact ⟨rfl, rfl, rfl⟩
