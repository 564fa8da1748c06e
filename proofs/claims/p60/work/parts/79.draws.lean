/-! DRAWS: only the range of an answer matters -/
theorem and31 {x : Int} : 0 ≤ am_and x 2147483647 ∧ am_and x 2147483647 < 2147483648 := by
  unfold am_and
  have h : ∀ y : Int32, 0 ≤ (y &&& Int32.ofInt 2147483647).toInt := fun y => by
    have h1 : (y &&& Int32.ofInt 2147483647).toBitVec.msb = false := by
      show (y.toBitVec &&& (Int32.ofInt 2147483647).toBitVec).msb = false
      rw [BitVec.msb_and, show (Int32.ofInt 2147483647).toBitVec.msb = false by decide, Bool.and_false]
    show 0 ≤ (y &&& Int32.ofInt 2147483647).toBitVec.toInt
    rw [BitVec.toInt_eq_msb_cond, h1]
    exact Int.natCast_nonneg _
  have h2 := Int32.toInt_lt (Int32.ofInt x &&& Int32.ofInt 2147483647)
  exact ⟨h _, by omega⟩
/-- the draws: the cells of the script, one behind the other -/
abbrev Dr (g : AG) (M : AM) (L : Nat) (d : Int) : Prop := gK g 100 = 9 ∧ gR g 100 0 = 1 ∧ gK g 1 = 28 ∧ gL g 1 = L ∧ M 100 1 = d ∧ (0 ≤ d ∧ d ≤ 1000000) ∧ L ≤ 260
