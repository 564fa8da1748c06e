/-! FACTS -/
theorem m0_132 : am_mlk 0 132 0 99 = true := by decide +kernel
theorem na99 : am_na 99 = 0 := by decide +kernel
theorem nl99 : am_nL 99 = 1 := by decide +kernel
theorem pd99 : ∀ a0 : AV, am_pad 99 [a0] = [a0] := by intros; unfold am_pad; rw [nl99]; rfl
theorem ln99 : 1 ≤ am_nL 99 := by rw [nl99]; decide
theorem o99 : am_oc 99 = 0 := by decide +kernel
theorem gi0_268 : am_gfi 0 268 0 6 = true := by decide +kernel
theorem rt99 : am_rt 99 = none := by decide +kernel
