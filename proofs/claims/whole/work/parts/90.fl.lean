/-! FLOATS: quotients of whole numbers -/
theorem num64 {a : UInt64} (h : Jvm.FP.Core.dIsNaN a = false) : a &&& 0x7fffffffffffffff ≤ 0x7ff0000000000000 := by
  have h1 : ¬ (9218868437227405312 < a.toNat % 2 ^ 63) := fun hc => by
    rw [(Jvm.FP.Core.isNaN_bits a).mpr hc] at h
    cases h
  rw [UInt64.le_iff_toNat_le, UInt64.toNat_and]
  have e : a.toNat &&& (0x7fffffffffffffff : UInt64).toNat = a.toNat % 2 ^ 63 := Nat.and_two_pow_sub_one_eq_mod a.toNat 63
  rw [e]
  show a.toNat % 2 ^ 63 ≤ 9218868437227405312
  omega
theorem num32 {a : UInt32} (h : Jvm.FP.Core.fIsNaN a = false) : a &&& 0x7fffffff ≤ 0x7f800000 := by
  have h1 : ¬ (2139095040 < a.toNat % 2 ^ 31) := fun hc => by
    rw [(Jvm.FP.Core.isNaN_bits32 a).mpr hc] at h
    cases h
  rw [UInt32.le_iff_toNat_le, UInt32.toNat_and]
  have e : a.toNat &&& (0x7fffffff : UInt32).toNat = a.toNat % 2 ^ 31 := Nat.and_two_pow_sub_one_eq_mod a.toNat 31
  rw [e]
  show a.toNat % 2 ^ 31 ≤ 2139095040
  omega
theorem am_d_nat (a : UInt64) : am_d (a.toNat : Int) = a := by unfold am_d; rw [Int.toNat_natCast, UInt64.ofNat_toNat]
theorem am_f_nat (a : UInt32) : am_f (a.toNat : Int) = a := by unfold am_f; rw [Int.toNat_natCast, UInt32.ofNat_toNat]
def i2dN (x : Int) : Int := ((FP.i2d (Int32.ofInt x)).toNat : Int)
def i2fN (x : Int) : Int := ((FP.i2f (Int32.ofInt x)).toNat : Int)
def ddq (x y : Int) : Int := ((FP.ddiv (FP.i2d (Int32.ofInt x)) (FP.i2d (Int32.ofInt y))).toNat : Int)
def fdq (x y : Int) : Int := ((FP.fdiv (FP.i2f (Int32.ofInt x)) (FP.i2f (Int32.ofInt y))).toNat : Int)
def f2dN (z : Int) : Int := ((FP.f2d (am_f z)).toNat : Int)
def NN (z : Int) : Prop := Jvm.FP.Core.dIsNaN (am_d z) = false
def NF (z : Int) : Prop := Jvm.FP.Core.fIsNaN (am_f z) = false
theorem ofI_ne {y : Int} (h : wr y ≠ 0) : Int32.ofInt y ≠ 0 := fun e => h (by
  have e1 : (Int32.ofInt y).toInt = 0 := by rw [e]; rfl
  rw [Int32.toInt_ofInt] at e1
  exact e1)
theorem ddq_nn {x y : Int} (h : wr y ≠ 0) : NN (ddq x y) := by
  unfold NN ddq
  rw [am_d_nat]
  exact Jvm.FP.Core.ddiv_out (Jvm.FP.Core.i2d_fin _).notNaN (Jvm.FP.Core.i2d_fin _) (fun hz => Jvm.FP.Core.i2d_ne_zero (ofI_ne h) ((Jvm.FP.Core.zero_bits2 _).mp hz))
theorem fdq_nf {x y : Int} (h : wr y ≠ 0) : NF (fdq x y) := by
  unfold NF fdq
  rw [am_f_nat]
  exact Jvm.FP.Core.fdiv_out (Jvm.FP.Core.i2f_fin _).notNaN (Jvm.FP.Core.i2f_fin _) (fun hz => Jvm.FP.Core.i2f_ne_zero (ofI_ne h) ((Jvm.FP.Core.zero_bits232 _).mp hz))
theorem f2d_nn {z : Int} (h : NF z) : Jvm.FP.Core.dIsNaN (FP.f2d (am_f z)) = false := by
  have e : FP.f2d (am_f z) = Jvm.FP.Core.f2d (am_f z) := by
    show (if Jvm.FP.Core.fIsNaN (am_f z) then _ else _) = _
    rw [show Jvm.FP.Core.fIsNaN (am_f z) = false from h]
    rfl
  rw [e]
  exact Jvm.FP.Core.f2d_out h
theorem f2dN_nn {z : Int} (h : NF z) : NN (f2dN z) := by
  unfold NN f2dN
  rw [am_d_nat]
  exact f2d_nn h
theorem nn0 : NN 0 := by unfold NN; decide +kernel
theorem nf0 : NF 0 := by unfold NF; decide +kernel
section OK
variable {d mi pc pc' : Nat} {ls st : List AV} {g : AG} {M : AM} {Q : AO → AG → AM → Prop}
theorem ok_dconst0 (hi : am_ins mi pc = some (.dconst 0)) (hp : pc + 1 = pc') (k : Ok d mi pc' ls (aD 0 :: st) g M Q) : Ok d mi pc ls st g M Q := ok_step hi rfl rfl (by subst hp; rfl) k
theorem ok_fconst0 (hi : am_ins mi pc = some (.fconst 0)) (hp : pc + 1 = pc') (k : Ok d mi pc' ls (aF 0 :: st) g M Q) : Ok d mi pc ls st g M Q := ok_step hi rfl rfl (by subst hp; rfl) k
theorem ok_i2d {x : Int} (hi : am_ins mi pc = some .i2d) (hp : pc + 1 = pc') (k : Ok d mi pc' ls (aD (i2dN x) :: st) g M Q) : Ok d mi pc ls (aI x :: st) g M Q := ok_step hi rfl rfl (by subst hp; rfl) k
theorem ok_i2f {x : Int} (hi : am_ins mi pc = some .i2f) (hp : pc + 1 = pc') (k : Ok d mi pc' ls (aF (i2fN x) :: st) g M Q) : Ok d mi pc ls (aI x :: st) g M Q := ok_step hi rfl rfl (by subst hp; rfl) k
theorem ok_ddivq {x y : Int} (hi : am_ins mi pc = some .ddiv) (hy : wr y ≠ 0) (hp : pc + 1 = pc') (k : Ok d mi pc' ls (aD (ddq x y) :: st) g M Q) : Ok d mi pc ls (aD (i2dN y) :: aD (i2dN x) :: st) g M Q := by
  have h := ddq_nn (x := x) hy
  unfold NN ddq at h
  rw [am_d_nat] at h
  refine ok_step hi rfl rfl ?_ k
  show (if FP.ddiv (am_d (i2dN x)) (am_d (i2dN y)) &&& 0x7fffffffffffffff ≤ 0x7ff0000000000000 then _ else _) = _
  unfold i2dN
  rw [am_d_nat, am_d_nat, if_pos (num64 h), hp]
  rfl
theorem ok_fdivq {x y : Int} (hi : am_ins mi pc = some .fdiv) (hy : wr y ≠ 0) (hp : pc + 1 = pc') (k : Ok d mi pc' ls (aF (fdq x y) :: st) g M Q) : Ok d mi pc ls (aF (i2fN y) :: aF (i2fN x) :: st) g M Q := by
  have h := fdq_nf (x := x) hy
  unfold NF fdq at h
  rw [am_f_nat] at h
  refine ok_step hi rfl rfl ?_ k
  show (if FP.fdiv (am_f (i2fN x)) (am_f (i2fN y)) &&& 0x7fffffff ≤ 0x7f800000 then _ else _) = _
  unfold i2fN
  rw [am_f_nat, am_f_nat, if_pos (num32 h), hp]
  rfl
theorem ok_f2dq {z : Int} (hi : am_ins mi pc = some .f2d) (hz : NF z) (hp : pc + 1 = pc') (k : Ok d mi pc' ls (aD (f2dN z) :: st) g M Q) : Ok d mi pc ls (aF z :: st) g M Q := by
  refine ok_step hi rfl rfl ?_ k
  show (if FP.f2d (am_f z) &&& 0x7fffffffffffffff ≤ 0x7ff0000000000000 then _ else _) = _
  rw [if_pos (num64 (f2d_nn hz)), hp]
  rfl
theorem ok_dcmp0 {z : Int} {o : ClassFile.CmpOp} (hi : am_ins mi pc = some (.dcmp o)) (hz : NN z) (hp : pc + 1 = pc') (k : Ok d mi pc' ls (aI 0 :: st) g M Q) : Ok d mi pc ls (aD z :: aD z :: st) g M Q := by
  refine ok_step hi rfl rfl ?_ k
  show some (pc + 1, ls, aI (Op.cmpValue (FP.dcmp (am_d z) (am_d z)) o).toInt :: st, g, M) = _
  have e : FP.dcmp (am_d z) (am_d z) = some .eq := Jvm.FP.Core.dcmp_self ((Jvm.FP.Core.notNaN_iff _).mp hz)
  rw [e, hp]
  cases o <;> rfl
theorem ok_dret {x : Int} (hi : am_ins mi pc = some .dreturn) (ht : am_rt mi = some .double) (q : Q (.inl (some (aD x))) g M) : Ok d mi pc ls [aD x] g M Q := ok_ret hi (by unfold am_ret; dsimp only; rw [ht]; rfl) q
theorem ok_fret {x : Int} (hi : am_ins mi pc = some .freturn) (ht : am_rt mi = some .float) (q : Q (.inl (some (aF x))) g M) : Ok d mi pc ls [aF x] g M Q := ok_ret hi (by unfold am_ret; dsimp only; rw [ht]; rfl) q
end OK
