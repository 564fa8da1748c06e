/-! THE SMALL MACHINE AND THE MACHINE: numbers -/
theorem am_addI (x y : Int) : Int32.ofInt x + Int32.ofInt y = Int32.ofInt (x + y) := (Int32.ofInt_add x y).symm
theorem am_subI (x y : Int) : Int32.ofInt x - Int32.ofInt y = Int32.ofInt (x - y) := (Int32.ofInt_sub x y).symm
theorem am_mulI (x y : Int) : Int32.ofInt x * Int32.ofInt y = Int32.ofInt (x * y) := (Int32.ofInt_mul x y).symm
theorem am_toI (x : Int) : (Int32.ofInt x).toInt = wr x := by rw [Int32.toInt_ofInt]; rfl
theorem am_ofI (x : Int32) : Int32.ofInt x.toInt = x := Int32.ofInt_toInt x
theorem am_toL (x : Int) : (Int64.ofInt x).toInt = wl x := by rw [Int64.toInt_ofInt]; rfl
theorem am_ltI (x y : Int) : Int32.ofInt x < Int32.ofInt y ↔ wr x < wr y := by rw [Int32.lt_iff_toInt_lt, am_toI, am_toI]
theorem am_leI (x y : Int) : Int32.ofInt x ≤ Int32.ofInt y ↔ wr x ≤ wr y := by rw [Int32.le_iff_toInt_le, am_toI, am_toI]
theorem am_eqI (x y : Int) : Int32.ofInt x = Int32.ofInt y ↔ wr x = wr y := by rw [← Int32.toInt_inj, am_toI, am_toI]
theorem wr_id {x : Int} (h1 : -2147483648 ≤ x) (h2 : x < 2147483648) : wr x = x := by
  unfold wr
  exact Int.bmod_eq_of_le (by omega) (by omega)
theorem wr_rng (x : Int) : -2147483648 ≤ wr x ∧ wr x < 2147483648 := by
  unfold wr
  have h1 := Int.le_bmod (x := x) (m := 4294967296) (by decide)
  have h2 := Int.bmod_lt (x := x) (m := 4294967296) (by decide)
  omega
theorem am_0I : (0 : Int32) = Int32.ofInt 0 := by decide
theorem wr_0 : wr 0 = 0 := by decide
theorem am_litI (x : Int) (n : Int) : Int32.ofInt x = Int32.ofInt n ↔ wr x = wr n := am_eqI x n
theorem am_i8 (n : Int) : (Int8.ofInt n).toInt32 = Int32.ofInt (Int8.ofInt n).toInt := by
  rw [← Int32.toInt_inj, am_toI, Int8.toInt_toInt32, wr_id]
  · have := Int8.le_toInt (Int8.ofInt n); omega
  · have := Int8.toInt_lt (Int8.ofInt n); omega
theorem am_i16 (n : Int) : (Int16.ofInt n).toInt32 = Int32.ofInt (Int16.ofInt n).toInt := by
  rw [← Int32.toInt_inj, am_toI, Int16.toInt_toInt32, wr_id]
  · have := Int16.le_toInt (Int16.ofInt n); omega
  · have := Int16.toInt_lt (Int16.ofInt n); omega
theorem am_i2b (x : Int) : (Int32.ofInt x).toInt8.toInt32 = Int32.ofInt (x.bmod 256) := by
  rw [← Int32.toInt_inj, Int8.toInt_toInt32, Int32.toInt_toInt8, am_toI, am_toI]
  have e1 : (wr x).bmod (2 ^ 8) = x.bmod 256 := by
    unfold wr
    exact Int.bmod_bmod_of_dvd (by decide)
  have h1 := Int.le_bmod (x := x) (m := 256) (by decide)
  have h2 := Int.bmod_lt (x := x) (m := 256) (by decide)
  rw [e1, wr_id (x := x.bmod 256) (by omega) (by omega)]
theorem am_i2l (x : Int) : (Int32.ofInt x).toInt64 = Int64.ofInt (wr x) := by
  rw [← Int64.toInt_inj, Int32.toInt_toInt64, am_toL, am_toI]
  have := wr_rng x
  unfold wl
  exact (Int.bmod_eq_of_le (by omega) (by omega)).symm
theorem am_tmodb (a b : Int) (h : b ≠ 0) (ha : -2147483648 ≤ a ∧ a < 2147483648) (hb : -2147483648 ≤ b ∧ b < 2147483648) : -2147483648 ≤ a.tmod b ∧ a.tmod b < 2147483648 := by
  rcases Int.lt_or_gt_of_ne h with h0 | h0
  · have := tmod_bounds (a := a) (M := -b) (by omega)
    rw [Int.tmod_neg] at this
    omega
  · have := tmod_bounds (a := a) (M := b) (by omega)
    omega
theorem am_tmod (x y : Int) (h : wr y ≠ 0) : Int32.ofInt x - Int32.ofInt x / Int32.ofInt y * Int32.ofInt y = Int32.ofInt ((wr x).tmod (wr y)) := by
  have hb := am_tmodb (wr x) (wr y) h (wr_rng x) (wr_rng y)
  rw [← Int32.toInt_inj, rem_toInt, am_toI, am_toI, am_toI, wr_id (x := (wr x).tmod (wr y)) hb.1 hb.2]
theorem am_tdiv (x y : Int) : Int32.ofInt x / Int32.ofInt y = Int32.ofInt ((wr x).tdiv (wr y)) := by
  rw [← Int32.toInt_inj, Int32.toInt_div, am_toI, am_toI, am_toI]
  rfl
theorem am_i2c (x : Int) : ((Int32.ofInt x).toUInt32 % 65536).toInt32 = Int32.ofInt (x % 65536) := by
  rw [pk_char]
  unfold nI
  have e : (Int32.ofInt x).toBitVec.toNat = (x % 4294967296).toNat := by
    show (BitVec.ofInt 32 x).toNat = _
    rw [BitVec.toNat_ofInt]; rfl
  rw [e]
  have h1 : ((x % 4294967296).toNat % 65536 : Nat) = (x % 65536).toNat := by omega
  rw [h1]
  have h2 : (x % 65536) = (((x % 65536).toNat : Nat) : Int) := by omega
  rw [← Int32.toInt_inj, am_toI, h2]
  have h3 : (x % 65536).toNat < 65536 := by omega
  have := nI_toInt (n := (x % 65536).toNat) (by omega)
  unfold nI at this
  simp only [Int.toNat_natCast]
  rw [this, wr_id (by omega) (by omega)]
theorem am_lcmp (x y : Int) : lg_cmp (Int64.ofInt x) (Int64.ofInt y) = Int32.ofInt (if wl x < wl y then -1 else if wl x = wl y then 0 else 1) := by
  unfold lg_cmp
  have h1 : Int64.ofInt x > Int64.ofInt y ↔ wl y < wl x := by rw [gt_iff_lt, Int64.lt_iff_toInt_lt, am_toL, am_toL]
  have h2 : Int64.ofInt x = Int64.ofInt y ↔ wl x = wl y := by rw [← Int64.toInt_inj, am_toL, am_toL]
  by_cases a : wl y < wl x
  · rw [if_pos (h1.mpr a), if_neg (by omega), if_neg (by omega)]; decide
  · rw [if_neg (fun h => a (h1.mp h))]
    by_cases b : wl x = wl y
    · rw [if_pos (h2.mpr b), if_neg (by omega), if_pos b]; decide
    · rw [if_neg (fun h => b (h2.mp h)), if_pos (by omega)]; decide
theorem am_d64 (u : UInt64) : am_d (u.toNat : Int) = u := by unfold am_d; simp
theorem am_f32 (u : UInt32) : am_f (u.toNat : Int) = u := by unfold am_f; simp
