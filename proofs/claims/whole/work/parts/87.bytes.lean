/-! BYTES OF A WORD; COPIES OF WHOLE ARRAYS -/
theorem ok_acopyW {d mi pc pc' oc idx : Nat} {ls st : List AV} {g : AG} {M : AM} {Q : AO → AG → AM → Prop} {cn : Int} {a a0 n n0 : Nat} (hi : am_ins mi pc = some (.invokestatic idx)) (ho : am_oc mi = oc) (hm : am_mlk oc idx 4 0 = true) (hk : gK g a = 20) (hk0 : gK g a0 = 20) (hL : gL g a = n) (hL0 : gL g a0 = n0) (hb : 0 ≤ cn ∧ cn ≤ (n0 : Int) ∧ cn ≤ (n : Int)) (hs : (st.map am_cat).sum ≤ 8) (hp : pc + 3 = pc')
    (k : ∀ M1 : AM, (∀ i : Int, 0 ≤ i → i < cn → M1 a i = M a0 i) → (∀ c, c ≠ a → M1 c = M c) → Ok d mi pc' ls st g M1 Q) : Ok d mi pc ls (aI cn :: aI 0 :: aR a :: aI 0 :: aR a0 :: st) g M Q :=
  ok_acopy hi ho hm hk hk0 hL hL0 (by omega) hs hp (k _ (fun i i0 i1 => by
    rw [upM_at]
    unfold am_cpy
    rw [if_pos (by omega)]
    congr 1
    omega) (fun c hc => upM_na hc))
theorem bm_4 (U : Nat) (h : U < 4294967296) : Int.bmod (U : Int) 4294967296 = if U < 2147483648 then (U : Int) else (U : Int) - 4294967296 := by
  rw [Int.bmod_def]
  split <;> split <;> omega
theorem i32_nat {x : Int} (h : -2147483648 ≤ x ∧ x < 2147483648) : ∃ U : Nat, (Int32.ofInt x).toBitVec.toNat = U ∧ U < 4294967296 ∧ x = if U < 2147483648 then (U : Int) else (U : Int) - 4294967296 := by
  refine ⟨_, rfl, (Int32.ofInt x).toBitVec.isLt, ?_⟩
  rw [← bm_4 _ (Int32.ofInt x).toBitVec.isLt]
  have e := i32_of h
  rw [← e]
  show (Int32.ofInt x).toBitVec.toInt = _
  rw [e]
  exact BitVec.toInt_eq_toNat_bmod _
theorem and255 {y : Int} (h : -2147483648 ≤ y ∧ y < 2147483648) : am_and y 255 = y % 256 := by
  obtain ⟨U, hU, hl, hx⟩ := i32_nat h
  have e : am_and y 255 = ((Int32.ofInt y).toBitVec &&& (255#32)).toInt := rfl
  have e2 : ((Int32.ofInt y).toBitVec &&& (255#32)).toNat = U % 256 := by
    rw [BitVec.toNat_and, hU]
    exact Nat.and_two_pow_sub_one_eq_mod U 8
  rw [e, BitVec.toInt_eq_toNat_bmod, e2, show (2 ^ 32 : Nat) = 4294967296 from rfl, bm_4 _ (by omega), if_pos (by omega), hx]
  split <;> omega
theorem shr_eq {x : Int} (h : -2147483648 ≤ x ∧ x < 2147483648) (k : Nat) {y : Int} (hy : ((Int32.ofInt y &&& 31).toBitVec.smod 32).toNat = k) : am_shr x y = x / (2 ^ k : Nat) := by
  have e : am_shr x y = ((Int32.ofInt x).toBitVec.sshiftRight ((Int32.ofInt y &&& 31).toBitVec.smod 32).toNat).toInt := rfl
  rw [e, hy, BitVec.toInt_sshiftRight, Int.shiftRight_eq_div_pow]
  have e2 := i32_of h
  show (Int32.ofInt x).toInt / _ = _
  rw [e2]
theorem ushr_eq {x : Int} {U : Nat} (hU : (Int32.ofInt x).toBitVec.toNat = U) (hl : U < 4294967296) (k : Nat) {y : Int} (hy : ((Int32.ofInt y).toUInt32 &&& Int32.toUInt32 31).toNat % 32 = k) (hk : U / 2 ^ k < 2147483648) : am_ushr x y = (U / 2 ^ k : Nat) := by
  have e : am_ushr x y = ((Int32.ofInt x).toUInt32 >>> ((Int32.ofInt y).toUInt32 &&& Int32.toUInt32 31)).toBitVec.toInt := rfl
  have e2 : ((Int32.ofInt x).toUInt32 >>> ((Int32.ofInt y).toUInt32 &&& Int32.toUInt32 31)).toBitVec.toNat = U / 2 ^ k := by
    show ((Int32.ofInt x).toUInt32 >>> ((Int32.ofInt y).toUInt32 &&& Int32.toUInt32 31)).toNat = _
    rw [UInt32.toNat_shiftRight, hy, Nat.shiftRight_eq_div_pow]
    show (Int32.ofInt x).toBitVec.toNat / _ = _
    rw [hU]
  rw [e, BitVec.toInt_eq_toNat_bmod, e2, show (2 ^ 32 : Nat) = 4294967296 from rfl, bm_4 _ (by omega), if_pos hk]
theorem bm8 {z : Int} : Int.bmod z 256 % 256 = z % 256 ∧ -128 ≤ Int.bmod z 256 ∧ Int.bmod z 256 < 128 := by
  rw [Int.bmod_def]
  split <;> omega
theorem byt24 {x : Int} (h : -2147483648 ≤ x ∧ x < 2147483648) : am_and (am_shr x 24) 255 = Int.bmod (am_ushr x 24) 256 % 256 ∧ -128 ≤ Int.bmod (am_ushr x 24) 256 ∧ Int.bmod (am_ushr x 24) 256 < 128 := by
  obtain ⟨U, hU, hl, hx⟩ := i32_nat h
  have e1 := shr_eq h 24 (y := 24) (by decide)
  have e2 := ushr_eq hU hl 24 (y := 24) (by decide) (by omega)
  rw [show (2 ^ 24 : Nat) = 16777216 from rfl] at e1 e2
  refine ⟨?_, bm8.2⟩
  rw [bm8.1, e1, e2, and255 (by split at hx <;> omega)]
  split at hx <;> omega
theorem byt16 {x : Int} (h : -2147483648 ≤ x ∧ x < 2147483648) : am_and (am_shr x 16) 255 = Int.bmod (am_ushr x 16) 256 % 256 ∧ -128 ≤ Int.bmod (am_ushr x 16) 256 ∧ Int.bmod (am_ushr x 16) 256 < 128 := by
  obtain ⟨U, hU, hl, hx⟩ := i32_nat h
  have e1 := shr_eq h 16 (y := 16) (by decide)
  have e2 := ushr_eq hU hl 16 (y := 16) (by decide) (by omega)
  rw [show (2 ^ 16 : Nat) = 65536 from rfl] at e1 e2
  refine ⟨?_, bm8.2⟩
  rw [bm8.1, e1, e2, and255 (by split at hx <;> omega)]
  split at hx <;> omega
theorem byt8 {x : Int} (h : -2147483648 ≤ x ∧ x < 2147483648) : am_and (am_shr x 8) 255 = Int.bmod (am_ushr x 8) 256 % 256 ∧ -128 ≤ Int.bmod (am_ushr x 8) 256 ∧ Int.bmod (am_ushr x 8) 256 < 128 := by
  obtain ⟨U, hU, hl, hx⟩ := i32_nat h
  have e1 := shr_eq h 8 (y := 8) (by decide)
  have e2 := ushr_eq hU hl 8 (y := 8) (by decide) (by omega)
  rw [show (2 ^ 8 : Nat) = 256 from rfl] at e1 e2
  refine ⟨?_, bm8.2⟩
  rw [bm8.1, e1, e2, and255 (by split at hx <;> omega)]
  split at hx <;> omega
theorem byt0 {x : Int} (h : -2147483648 ≤ x ∧ x < 2147483648) : am_and (am_shr x 0) 255 = Int.bmod x 256 % 256 ∧ -128 ≤ Int.bmod x 256 ∧ Int.bmod x 256 < 128 := by
  have e1 := shr_eq h 0 (y := 0) (by decide)
  refine ⟨?_, bm8.2⟩
  rw [bm8.1, e1, show (2 ^ 0 : Nat) = 1 from rfl, and255 (by omega)]
  omega
