/-! RUNS OF THE SMALL MACHINE: arrays, fields, calls -/
def am_gfi (oc idx ci k : Nat) : Bool := match am_fl oc idx with
  | some (_, c, j, _) => decide (c = ci) && decide (j = k) && decide (ci ≠ 14) && decide (k < am_nf ci) && decide (am_fkd ci k % 4 ≠ 1)
  | none => false
def am_gfr (oc idx ci k : Nat) : Bool := match am_fl oc idx with
  | some (_, c, j, _) => decide (c = ci) && decide (j = k) && decide (ci ≠ 14) && decide (k < am_nf ci) && decide (am_fkd ci k % 4 = 1)
  | none => false
def am_pfi (mi oc idx ci k : Nat) : Bool := match am_fl oc idx with
  | some (_, c, j, _) => decide (c = ci) && decide (j = k) && decide (k < am_nf ci) && am_finok mi ci k && decide (am_fkd ci k % 4 = 0)
  | none => false
def am_pfz (mi oc idx ci k : Nat) : Bool := match am_fl oc idx with
  | some (_, c, j, _) => decide (c = ci) && decide (j = k) && decide (k < am_nf ci) && am_finok mi ci k && decide (am_fkd ci k % 4 = 2)
  | none => false
def am_pfr (mi oc idx ci k : Nat) : Bool := match am_fl oc idx with
  | some (_, c, j, _) => decide (c = ci) && decide (j = k) && decide (k < am_nf ci) && am_finok mi ci k && decide (am_fkd ci k % 4 = 1)
  | none => false
def am_mlk (oc idx kd y : Nat) : Bool := match am_ml oc idx with
  | some (_, k, z, _) => decide (k = kd) && decide (z = y)
  | none => false
section OK
variable {d mi pc pc' pc1 pc2 oc idx ci k0 kd n a : Nat} {ls ls' st st' : List AV} {g g' : AG} {M M' : AM} {Q : AO → AG → AM → Prop} {i : Instr}
theorem ok_getfi {v : Int} (hi : am_ins mi pc = some (.getfield idx)) (ho : am_oc mi = oc) (hf : am_gfi oc idx ci k0 = true) (hk : gK g a = ci) (hv : M a k0 = v) (hp : pc + 3 = pc') (k : Ok d mi pc' ls (aI v :: st) g M Q) : Ok d mi pc ls (aR a :: st) g M Q := by
  unfold am_gfi at hf
  split at hf
  · next z c j z2 e =>
    simp only [Bool.and_eq_true, decide_eq_true_eq] at hf
    obtain ⟨⟨⟨⟨rfl, rfl⟩, h1⟩, h2⟩, h3⟩ := hf
    subst hp; subst hv
    refine ok_step hi rfl rfl ?_ k
    show am_getf mi pc idx ls (aR a :: st) g M = _
    unfold am_getf
    dsimp only
    rw [if_neg (by rw [hk]; exact h1), ho, e]
    dsimp only
    rw [if_pos ⟨hk, h2⟩, if_neg h3]
  · cases hf
theorem ok_getfr {r : Nat} (hi : am_ins mi pc = some (.getfield idx)) (ho : am_oc mi = oc) (hf : am_gfr oc idx ci k0 = true) (hk : gK g a = ci) (hv : gR g a k0 = r) (hp : pc + 3 = pc') (k : Ok d mi pc' ls (aR r :: st) g M Q) : Ok d mi pc ls (aR a :: st) g M Q := by
  unfold am_gfr at hf
  split at hf
  · next z c j z2 e =>
    simp only [Bool.and_eq_true, decide_eq_true_eq] at hf
    obtain ⟨⟨⟨⟨rfl, rfl⟩, h1⟩, h2⟩, h3⟩ := hf
    subst hp; subst hv
    refine ok_step hi rfl rfl ?_ k
    show am_getf mi pc idx ls (aR a :: st) g M = _
    unfold am_getf
    dsimp only
    rw [if_neg (by rw [hk]; exact h1), ho, e]
    dsimp only
    rw [if_pos ⟨hk, h2⟩, if_pos h3]
  · cases hf
theorem ok_getfs {r : Nat} (hi : am_ins mi pc = some (.getfield 9)) (ho : am_oc mi = 14) (hk : gK g a = 14) (hv : gR g a 0 = r) (hp : pc + 3 = pc') (k : Ok d mi pc' ls (aR r :: st) g M Q) : Ok d mi pc ls (aR a :: st) g M Q := by
  subst hp; subst hv
  refine ok_step hi rfl rfl ?_ k
  show am_getf mi pc 9 ls (aR a :: st) g M = _
  unfold am_getf
  dsimp only
  rw [if_pos hk, if_pos ⟨ho, rfl⟩]
theorem ok_getfc (hi : am_ins mi pc = some (.getfield 15)) (ho : am_oc mi = 14) (hk : gK g a = 14) (hp : pc + 3 = pc') (k : Ok d mi pc' ls (aI 0 :: st) g M Q) : Ok d mi pc ls (aR a :: st) g M Q := by
  subst hp
  refine ok_step hi rfl rfl ?_ k
  show am_getf mi pc 15 ls (aR a :: st) g M = _
  unfold am_getf
  dsimp only
  rw [if_pos hk, if_neg (fun h => absurd h.2 (by decide)), if_pos ⟨ho, rfl⟩]
theorem ok_putfi {x : Int} (hi : am_ins mi pc = some (.putfield idx)) (ho : am_oc mi = oc) (hf : am_pfi mi oc idx ci k0 = true) (hk : gK g a = ci) (hp : pc + 3 = pc') (k : Ok d mi pc' ls st g (up2 M a k0 x) Q) : Ok d mi pc ls (aI x :: aR a :: st) g M Q := by
  unfold am_pfi at hf
  split at hf
  · next z c j z2 e =>
    simp only [Bool.and_eq_true, decide_eq_true_eq] at hf
    obtain ⟨⟨⟨⟨rfl, rfl⟩, h1⟩, h2⟩, h3⟩ := hf
    subst hp
    refine ok_step hi rfl rfl ?_ k
    show am_putf mi pc idx ls (aI x :: aR a :: st) g M = _
    unfold am_putf
    dsimp only
    rw [ho, e]
    dsimp only
    rw [if_pos ⟨hk, h1, h2, Or.inl h3⟩]
  · cases hf
theorem ok_putfz {x : Int} (hi : am_ins mi pc = some (.putfield idx)) (ho : am_oc mi = oc) (hf : am_pfz mi oc idx ci k0 = true) (hk : gK g a = ci) (hx : x = 0 ∨ x = 1) (hp : pc + 3 = pc') (k : Ok d mi pc' ls st g (up2 M a k0 x) Q) : Ok d mi pc ls (aI x :: aR a :: st) g M Q := by
  unfold am_pfz at hf
  split at hf
  · next z c j z2 e =>
    simp only [Bool.and_eq_true, decide_eq_true_eq] at hf
    obtain ⟨⟨⟨⟨rfl, rfl⟩, h1⟩, h2⟩, h3⟩ := hf
    subst hp
    refine ok_step hi rfl rfl ?_ k
    show am_putf mi pc idx ls (aI x :: aR a :: st) g M = _
    unfold am_putf
    dsimp only
    rw [ho, e]
    dsimp only
    rw [if_pos ⟨hk, h1, h2, Or.inr (Or.inl ⟨h3, hx⟩)⟩]
  · cases hf
theorem ok_putfr {r : Nat} (hi : am_ins mi pc = some (.putfield idx)) (ho : am_oc mi = oc) (hf : am_pfr mi oc idx ci k0 = true) (hk : gK g a = ci) (hp : pc + 3 = pc') (k : Ok d mi pc' ls st (gN g, gS g, gK g, gL g, up2R (gR g) a k0 r) M Q) : Ok d mi pc ls (aR r :: aR a :: st) g M Q := by
  unfold am_pfr at hf
  split at hf
  · next z c j z2 e =>
    simp only [Bool.and_eq_true, decide_eq_true_eq] at hf
    obtain ⟨⟨⟨⟨rfl, rfl⟩, h1⟩, h2⟩, h3⟩ := hf
    subst hp
    refine ok_step hi rfl rfl ?_ k
    show am_putf mi pc idx ls (aR r :: aR a :: st) g M = _
    unfold am_putf
    dsimp only
    rw [ho, e]
    dsimp only
    rw [if_pos ⟨hk, h1, h2, h3⟩]
  · cases hf
theorem ok_iaload {x v : Int} (hi : am_ins mi pc = some .iaload) (hk : gK g a = kd) (hm : kd ∈ [20, 28]) (hL : gL g a = n) (hb : 0 ≤ x ∧ x < (n : Int)) (hv : M a x = v) (hp : pc + 1 = pc') (k : Ok d mi pc' ls (aI v :: st) g M Q) : Ok d mi pc ls (aI x :: aR a :: st) g M Q := by
  subst hp; subst hv; subst hL
  refine ok_step hi rfl rfl ?_ k
  show am_ald [20, 28] aI pc ls (aI x :: aR a :: st) g M = _
  unfold am_ald
  dsimp only
  rw [if_pos ⟨by rw [hk]; exact hm, hb⟩]
theorem ok_baload {x v : Int} (hi : am_ins mi pc = some .baload) (hk : gK g a = kd) (hm : kd ∈ [21, 22, 27]) (hL : gL g a = n) (hb : 0 ≤ x ∧ x < (n : Int)) (hv : M a x = v) (hp : pc + 1 = pc') (k : Ok d mi pc' ls (aI v :: st) g M Q) : Ok d mi pc ls (aI x :: aR a :: st) g M Q := by
  subst hp; subst hv; subst hL
  refine ok_step hi rfl rfl ?_ k
  show am_ald [21, 22, 27] aI pc ls (aI x :: aR a :: st) g M = _
  unfold am_ald
  dsimp only
  rw [if_pos ⟨by rw [hk]; exact hm, hb⟩]
theorem ok_aaload {x : Int} {r : Nat} (hi : am_ins mi pc = some .aaload) (hk : gK g a = kd) (hm : kd ∈ [23, 24, 25, 26]) (hL : gL g a = n) (hb : 0 ≤ x ∧ x < (n : Int)) (hv : gR g a x = r) (hp : pc + 1 = pc') (k : Ok d mi pc' ls (aR r :: st) g M Q) : Ok d mi pc ls (aI x :: aR a :: st) g M Q := by
  subst hp; subst hv; subst hL
  refine ok_step hi rfl rfl ?_ k
  show (if gK g a ∈ [23, 24, 25, 26] ∧ 0 ≤ x ∧ x < gL g a then some (pc + 1, ls, aR (gR g a x) :: st, g, M) else none) = _
  rw [if_pos ⟨by rw [hk]; exact hm, hb⟩]
theorem ok_arrlen {v : Int} (hi : am_ins mi pc = some .arraylength) (hk : gK g a = kd) (hm : kd ∈ [20, 21, 22, 23, 24, 25, 26, 27, 28]) (hv : (gL g a : Int) = v) (hp : pc + 1 = pc') (k : Ok d mi pc' ls (aI v :: st) g M Q) : Ok d mi pc ls (aR a :: st) g M Q := by
  subst hp; subst hv
  refine ok_step hi rfl rfl ?_ k
  show (if gK g a ∈ [20, 21, 22, 23, 24, 25, 26, 27, 28] then some (pc + 1, ls, aI (gL g a) :: st, g, M) else none) = _
  rw [if_pos (by rw [hk]; exact hm)]
theorem ok_iastore {x v : Int} (hi : am_ins mi pc = some .iastore) (hk : gK g a = 20) (hL : gL g a = n) (hb : 0 ≤ x ∧ x < (n : Int)) (hp : pc + 1 = pc') (k : Ok d mi pc' ls st g (up2 M a x v) Q) : Ok d mi pc ls (aI v :: aI x :: aR a :: st) g M Q := by
  subst hp; subst hL
  refine ok_step hi rfl rfl ?_ k
  show (if gK g a = 20 ∧ 0 ≤ x ∧ x < gL g a then some (pc + 1, ls, st, g, up2 M a x v) else none) = _
  rw [if_pos ⟨hk, hb⟩]
theorem ok_bastore {x y v : Int} (hi : am_ins mi pc = some .bastore) (hk : gK g a = 21 ∨ gK g a = 22 ∧ (y = 0 ∨ y = 1)) (hL : gL g a = n) (hb : 0 ≤ x ∧ x < (n : Int)) (hv : y.bmod 256 = v) (hp : pc + 1 = pc') (k : Ok d mi pc' ls st g (up2 M a x v) Q) : Ok d mi pc ls (aI y :: aI x :: aR a :: st) g M Q := by
  subst hp; subst hL; subst hv
  refine ok_step hi rfl rfl ?_ k
  show (if (gK g a = 21 ∨ gK g a = 22 ∧ (y = 0 ∨ y = 1)) ∧ 0 ≤ x ∧ x < gL g a then some (pc + 1, ls, st, g, up2 M a x (y.bmod 256)) else none) = _
  rw [if_pos ⟨hk, hb⟩]
theorem am_mlk_ok {y : Nat} (ho : am_oc mi = oc) (h : am_mlk oc idx kd y = true) : ∃ z1 z2, am_ml (am_oc mi) idx = some (z1, kd, y, z2) := by
  rw [ho]
  unfold am_mlk at h
  split at h
  · next z1 k1 y1 z2 e =>
    simp only [Bool.and_eq_true, decide_eq_true_eq] at h
    obtain ⟨rfl, rfl⟩ := h
    exact ⟨_, _, e⟩
  · cases h
theorem ok_max {x y v : Int} (hi : am_ins mi pc = some (.invokestatic idx)) (ho : am_oc mi = oc) (hm : am_mlk oc idx 6 0 = true) (hx : rg2 x y) (hs : (st.map am_cat).sum ≤ 8) (hv : max x y = v) (hp : pc + 3 = pc') (k : Ok d mi pc' ls (aI v :: st) g M Q) : Ok d mi pc ls (aI y :: aI x :: st) g M Q := by
  obtain ⟨z1, z2, e⟩ := am_mlk_ok ho hm
  subst hp
  refine ok_step hi rfl ?_ ?_ k
  · unfold am_call; dsimp only; rw [e]; rfl
  · show (match am_ml (am_oc mi) idx with | some (_, 4, _) => am_cp pc ls (aI y :: aI x :: st) g M | some (_, 6, _) => am_mx pc ls (aI y :: aI x :: st) g M | some (_, 7, _) => am_mn pc ls (aI y :: aI x :: st) g M | _ => none) = _
    rw [e]
    show am_mx pc ls (aI y :: aI x :: st) g M = _
    unfold am_mx
    dsimp only
    rw [if_pos hs, hx.wr.1, hx.wr.2]
    have : (if x < y then y else x) = v := by rw [← hv]; split <;> omega
    rw [this]
theorem ok_min {x y v : Int} (hi : am_ins mi pc = some (.invokestatic idx)) (ho : am_oc mi = oc) (hm : am_mlk oc idx 7 0 = true) (hx : rg2 x y) (hs : (st.map am_cat).sum ≤ 8) (hv : min x y = v) (hp : pc + 3 = pc') (k : Ok d mi pc' ls (aI v :: st) g M Q) : Ok d mi pc ls (aI y :: aI x :: st) g M Q := by
  obtain ⟨z1, z2, e⟩ := am_mlk_ok ho hm
  subst hp
  refine ok_step hi rfl ?_ ?_ k
  · unfold am_call; dsimp only; rw [e]; rfl
  · show (match am_ml (am_oc mi) idx with | some (_, 4, _) => am_cp pc ls (aI y :: aI x :: st) g M | some (_, 6, _) => am_mx pc ls (aI y :: aI x :: st) g M | some (_, 7, _) => am_mn pc ls (aI y :: aI x :: st) g M | _ => none) = _
    rw [e]
    show am_mn pc ls (aI y :: aI x :: st) g M = _
    unfold am_mn
    dsimp only
    rw [if_pos hs, hx.wr.1, hx.wr.2]
    have : (if y < x then y else x) = v := by rw [← hv]; split <;> omega
    rw [this]
theorem ok_acopy {cn dp sp : Int} {a0 n0 : Nat} (hi : am_ins mi pc = some (.invokestatic idx)) (ho : am_oc mi = oc) (hm : am_mlk oc idx 4 0 = true) (hk : gK g a = 20) (hk0 : gK g a0 = 20) (hL : gL g a = n) (hL0 : gL g a0 = n0) (hb : 0 ≤ sp ∧ 0 ≤ dp ∧ 0 ≤ cn ∧ sp + cn ≤ (n0 : Int) ∧ dp + cn ≤ (n : Int)) (hs : (st.map am_cat).sum ≤ 8) (hp : pc + 3 = pc') (k : Ok d mi pc' ls st g (upM M a (am_cpy (M a0) (M a) sp dp cn)) Q) : Ok d mi pc ls (aI cn :: aI dp :: aR a :: aI sp :: aR a0 :: st) g M Q := by
  obtain ⟨z1, z2, e⟩ := am_mlk_ok ho hm
  subst hp; subst hL; subst hL0
  refine ok_step hi rfl ?_ ?_ k
  · unfold am_call; dsimp only; rw [e]; rfl
  · show (match am_ml (am_oc mi) idx with | some (_, 4, _) => am_cp pc ls (aI cn :: aI dp :: aR a :: aI sp :: aR a0 :: st) g M | some (_, 6, _) => am_mx pc ls (aI cn :: aI dp :: aR a :: aI sp :: aR a0 :: st) g M | some (_, 7, _) => am_mn pc ls (aI cn :: aI dp :: aR a :: aI sp :: aR a0 :: st) g M | _ => none) = _
    rw [e]
    show am_cp pc ls (aI cn :: aI dp :: aR a :: aI sp :: aR a0 :: st) g M = _
    unfold am_cp
    dsimp only
    rw [if_pos ⟨Or.inl ⟨hk, hk0⟩, hb.1, hb.2.1, hb.2.2.1, hb.2.2.2.1, hb.2.2.2.2, hs⟩]
theorem ok_bcopy {cn dp sp : Int} {a0 n0 : Nat} (hi : am_ins mi pc = some (.invokestatic idx)) (ho : am_oc mi = oc) (hm : am_mlk oc idx 4 0 = true) (hk : gK g a = 21) (hk0 : gK g a0 = 21 ∨ gK g a0 = 27) (hL : gL g a = n) (hL0 : gL g a0 = n0) (hb : 0 ≤ sp ∧ 0 ≤ dp ∧ 0 ≤ cn ∧ sp + cn ≤ (n0 : Int) ∧ dp + cn ≤ (n : Int)) (hs : (st.map am_cat).sum ≤ 8) (hp : pc + 3 = pc') (k : Ok d mi pc' ls st g (upM M a (am_cpy (M a0) (M a) sp dp cn)) Q) : Ok d mi pc ls (aI cn :: aI dp :: aR a :: aI sp :: aR a0 :: st) g M Q := by
  obtain ⟨z1, z2, e⟩ := am_mlk_ok ho hm
  subst hp; subst hL; subst hL0
  refine ok_step hi rfl ?_ ?_ k
  · unfold am_call; dsimp only; rw [e]; rfl
  · show (match am_ml (am_oc mi) idx with | some (_, 4, _) => am_cp pc ls (aI cn :: aI dp :: aR a :: aI sp :: aR a0 :: st) g M | some (_, 6, _) => am_mx pc ls (aI cn :: aI dp :: aR a :: aI sp :: aR a0 :: st) g M | some (_, 7, _) => am_mn pc ls (aI cn :: aI dp :: aR a :: aI sp :: aR a0 :: st) g M | _ => none) = _
    rw [e]
    show am_cp pc ls (aI cn :: aI dp :: aR a :: aI sp :: aR a0 :: st) g M = _
    unfold am_cp
    dsimp only
    rw [if_pos ⟨Or.inr ⟨hk, hk0⟩, hb.1, hb.2.1, hb.2.2.1, hb.2.2.2.1, hb.2.2.2.2, hs⟩]
theorem ok_objinit (hi : am_ins mi pc = some (.invokespecial idx)) (ho : am_oc mi = oc) (hm : am_mlk oc idx 5 0 = true) (hk : am_ob (gK g a)) (hs : (st.map am_cat).sum ≤ 8) (hp : pc + 3 = pc') (k : Ok d mi pc' ls st g M Q) : Ok d mi pc ls (aR a :: st) g M Q := by
  obtain ⟨z1, z2, e⟩ := am_mlk_ok ho hm
  subst hp
  refine ok_step hi rfl ?_ ?_ k
  · unfold am_call; dsimp only; rw [e]; rfl
  · show (match am_ml (am_oc mi) idx with | some (_, 5, _) => (if am_ob (gK g a) ∧ (st.map am_cat).sum ≤ 8 then some (pc + 3, ls, st, g, M) else none) | _ => none) = _
    rw [e]
    show (if am_ob (gK g a) ∧ (st.map am_cat).sum ≤ 8 then some (pc + 3, ls, st, g, M) else none) = _
    rw [if_pos ⟨hk, hs⟩]
theorem cl_s {y : Nat} {as rest : List AV} (ho : am_oc mi = oc) (hm : am_mlk oc idx 1 y = true) (hn : am_na y = n) (h1 : st.drop n = rest) (h2 : (st.take n).reverse = as) (h3 : (rest.map am_cat).sum ≤ 8) (h4 : n ≤ st.length) (h5 : ((st.take n).map am_cat).sum = n) : am_call mi (.invokestatic idx) st g = some (y, as, rest) := by
  obtain ⟨z1, z2, e⟩ := am_mlk_ok ho hm
  unfold am_call
  try dsimp only
  rw [e]
  show (if ((st.drop (am_na y)).map am_cat).sum ≤ 8 ∧ am_na y ≤ st.length ∧ ((st.take (am_na y)).map am_cat).sum = am_na y then some (y, (st.take (am_na y)).reverse, st.drop (am_na y)) else none) = _
  rw [hn, if_pos ⟨by rw [h1]; exact h3, h4, h5⟩, h1, h2]
theorem cl_v {y : Nat} {as rest : List AV} (ho : am_oc mi = oc) (hm : am_mlk oc idx 0 y = true) (hn : am_na y = n) (h1 : st.drop n = aR a :: rest) (h2 : (st.take n).reverse = as) (h3 : (rest.map am_cat).sum ≤ 8) (h4 : n ≤ st.length) (h5 : ((st.take n).map am_cat).sum = n) (hk : gK g a = am_oc y) : am_call mi (.invokevirtual idx) st g = some (y, aR a :: as, rest) := by
  obtain ⟨z1, z2, e⟩ := am_mlk_ok ho hm
  unfold am_call
  try dsimp only
  rw [e]
  show (match st.drop (am_na y) with
      | .inr (.inl a) :: rest => if (gK g a = am_oc y ∨ am_oc y = 14 ∧ gK g a = 19) ∧ (rest.map am_cat).sum ≤ 8 ∧ am_na y ≤ st.length ∧ ((st.take (am_na y)).map am_cat).sum = am_na y then some (y, aR a :: (st.take (am_na y)).reverse, rest) else none
      | _ => none) = _
  rw [hn, h1]
  dsimp only
  rw [if_pos ⟨Or.inl hk, h3, h4, h5⟩, h2]
theorem cl_vs {y : Nat} {as rest : List AV} (ho : am_oc mi = oc) (hm : am_mlk oc idx 0 y = true) (hn : am_na y = n) (h1 : st.drop n = aR a :: rest) (h2 : (st.take n).reverse = as) (h3 : (rest.map am_cat).sum ≤ 8) (h4 : n ≤ st.length) (h5 : ((st.take n).map am_cat).sum = n) (hk : am_oc y = 14 ∧ gK g a = 19) : am_call mi (.invokevirtual idx) st g = some (y, aR a :: as, rest) := by
  obtain ⟨z1, z2, e⟩ := am_mlk_ok ho hm
  unfold am_call
  try dsimp only
  rw [e]
  show (match st.drop (am_na y) with
      | .inr (.inl a) :: rest => if (gK g a = am_oc y ∨ am_oc y = 14 ∧ gK g a = 19) ∧ (rest.map am_cat).sum ≤ 8 ∧ am_na y ≤ st.length ∧ ((st.take (am_na y)).map am_cat).sum = am_na y then some (y, aR a :: (st.take (am_na y)).reverse, rest) else none
      | _ => none) = _
  rw [hn, h1]
  dsimp only
  rw [if_pos ⟨Or.inr hk, h3, h4, h5⟩, h2]
theorem cl_u {y : Nat} {as rest : List AV} (ho : am_oc mi = oc) (hm : am_mlk oc idx 8 y = true) (hn : am_na y = n) (h1 : st.drop n = aR a :: rest) (h2 : (st.take n).reverse = as) (h3 : (rest.map am_cat).sum ≤ 8) (h4 : n ≤ st.length) (h5 : ((st.take n).map am_cat).sum = n) (hk : gK g a = 18) : am_call mi (.invokevirtual idx) st g = some (y, aR a :: as, rest) := by
  obtain ⟨z1, z2, e⟩ := am_mlk_ok ho hm
  unfold am_call
  try dsimp only
  rw [e]
  show (match st.drop (am_na y) with
      | .inr (.inl a) :: rest => if gK g a = 18 ∧ (rest.map am_cat).sum ≤ 8 ∧ am_na y ≤ st.length ∧ ((st.take (am_na y)).map am_cat).sum = am_na y then some (y, aR a :: (st.take (am_na y)).reverse, rest) else none
      | _ => none) = _
  rw [hn, h1]
  dsimp only
  rw [if_pos ⟨hk, h3, h4, h5⟩, h2]
theorem cl_w {y : Nat} {as rest : List AV} (ho : am_oc mi = oc) (hm : am_mlk oc idx 10 y = true) (hn : am_na y = n) (h1 : st.drop n = aR a :: rest) (h2 : (st.take n).reverse = as) (h3 : (rest.map am_cat).sum ≤ 8) (h4 : n ≤ st.length) (h5 : ((st.take n).map am_cat).sum = n) (hk : gK g a = 18) : am_call mi (.invokespecial idx) st g = some (y, aR a :: as, rest) := by
  obtain ⟨z1, z2, e⟩ := am_mlk_ok ho hm
  unfold am_call
  try dsimp only
  rw [e]
  show (match st.drop (am_na y) with
      | .inr (.inl a) :: rest => if gK g a = 18 ∧ (rest.map am_cat).sum ≤ 8 ∧ am_na y ≤ st.length ∧ ((st.take (am_na y)).map am_cat).sum = am_na y then some (y, aR a :: (st.take (am_na y)).reverse, rest) else none
      | _ => none) = _
  rw [hn, h1]
  dsimp only
  rw [if_pos ⟨hk, h3, h4, h5⟩, h2]
theorem cl_i {y : Nat} {as rest : List AV} (ho : am_oc mi = oc) (hm : am_mlk oc idx 2 y = true ∨ am_mlk oc idx 3 y = true) (hn : am_na y = n) (h1 : st.drop n = aR a :: rest) (h2 : (st.take n).reverse = as) (h3 : (rest.map am_cat).sum ≤ 8) (h4 : n ≤ st.length) (h5 : ((st.take n).map am_cat).sum = n) (hk : am_ob (gK g a)) : am_call mi (.invokespecial idx) st g = some (y, aR a :: as, rest) := by
  rcases hm with hm | hm
  all_goals
    obtain ⟨z1, z2, e⟩ := am_mlk_ok ho hm
    unfold am_call
    try dsimp only
    rw [e]
    show (match st.drop (am_na y) with
      | .inr (.inl a) :: rest => if am_ob (gK g a) ∧ (rest.map am_cat).sum ≤ 8 ∧ am_na y ≤ st.length ∧ ((st.take (am_na y)).map am_cat).sum = am_na y then some (y, aR a :: (st.take (am_na y)).reverse, rest) else none
      | _ => none) = _
    rw [hn, h1]
    dsimp only
    rw [if_pos ⟨hk, h3, h4, h5⟩, h2]
/-- where a callee that is gone through comes back to -/
def Kt (d mi pc : Nat) (ls rest : List AV) (Q : AO → AG → AM → Prop) : AO → AG → AM → Prop := fun o g1 M1 => match o with
  | .inl v => Ok (d + 1) mi (pc + 3) ls (am_push v rest) g1 M1 Q
  | .inr E => (am_hh mi = [] ∧ Q (.inr E) g1 M1) ∨ (am_hh mi ≠ [] ∧ ∃ h t n, am_find mi pc E (am_hh mi) = some (h, t) ∧ am_hret mi h = some n ∧ Q (.inl (some (aI n))) g1 M1)
theorem kt_v {v : AV} {rest : List AV} (hp : pc + 3 = pc') (k : Ok (d + 1) mi pc' ls (v :: rest) g M Q) : Kt d mi pc ls rest Q (.inl (some v)) g M := by subst hp; exact k
theorem kt_0 {rest : List AV} (hp : pc + 3 = pc') (k : Ok (d + 1) mi pc' ls rest g M Q) : Kt d mi pc ls rest Q (.inl none) g M := by subst hp; exact k
theorem kt_x {E : Nat} {rest : List AV} (hh : am_hh mi = []) (q : Q (.inr E) g M) : Kt d mi pc ls rest Q (.inr E) g M := Or.inl ⟨hh, q⟩
theorem kt_h {E h t : Nat} {nn : Int} {rest : List AV} (hh : am_hh mi ≠ []) (h1 : am_find mi pc E (am_hh mi) = some (h, t)) (h2 : am_hret mi h = some nn) (q : Q (.inl (some (aI nn))) g M) : Kt d mi pc ls rest Q (.inr E) g M := Or.inr ⟨hh, h, t, nn, h1, h2, q⟩
theorem ok_cc {y : Nat} {as rest ls0 : List AV} (hi : am_ins mi pc = some i) (h1 : am_ret mi pc i st g = none) (h2 : am_call mi i st g = some (y, as, rest)) (hl : as.length ≤ am_nL y) (hpad : am_pad y as = ls0) (k : Ok d y 0 ls0 [] g M (Kt d mi pc ls rest Q)) : Ok (d + 1) mi pc ls st g M Q := ok_call hi h1 h2 hl (by rw [hpad]; exact k)
/-- a callee by its own row -/
theorem ok_cn {y d0 : Nat} {as rest ls0 : List AV} {P : AM → Prop} {v : AV} (hi : am_ins mi pc = some i) (h1 : am_ret mi pc i st g = none) (h2 : am_call mi i st g = some (y, as, rest)) (hl : as.length ≤ am_nL y) (hpad : am_pad y as = ls0) (hd : d0 ≤ d) (hs : Ok d0 y 0 ls0 [] g M (Rt (some v) g P)) (hp : pc + 3 = pc') (k : ∀ M1, P M1 → Ok (d + 1) mi pc' ls (v :: rest) g M1 Q) : Ok (d + 1) mi pc ls st g M Q :=
  ok_cc hi h1 h2 hl hpad ((hs.deep hd).mono (fun o g' M' h => by obtain ⟨rfl, rfl, h⟩ := h; exact kt_v hp (k M' h)))
theorem ok_cn0 {y d0 : Nat} {as rest ls0 : List AV} {P : AM → Prop} (hi : am_ins mi pc = some i) (h1 : am_ret mi pc i st g = none) (h2 : am_call mi i st g = some (y, as, rest)) (hl : as.length ≤ am_nL y) (hpad : am_pad y as = ls0) (hd : d0 ≤ d) (hs : Ok d0 y 0 ls0 [] g M (Rt none g P)) (hp : pc + 3 = pc') (k : ∀ M1, P M1 → Ok (d + 1) mi pc' ls rest g M1 Q) : Ok (d + 1) mi pc ls st g M Q :=
  ok_cc hi h1 h2 hl hpad ((hs.deep hd).mono (fun o g' M' h => by obtain ⟨rfl, rfl, h⟩ := h; exact kt_0 hp (k M' h)))
theorem ok_ireti {x : Int} (hi : am_ins mi pc = some .ireturn) (ht : am_rt mi = some .int) (q : Q (.inl (some (aI x))) g M) : Ok d mi pc ls [aI x] g M Q := ok_ret hi (by unfold am_ret am_rok; dsimp only; rw [ht]; rfl) q
theorem ok_iretz {x : Int} (hi : am_ins mi pc = some .ireturn) (ht : am_rt mi = some .boolean) (hx : x = 0 ∨ x = 1) (q : Q (.inl (some (aI x))) g M) : Ok d mi pc ls [aI x] g M Q := ok_ret hi (by unfold am_ret am_rok; dsimp only; rw [ht]; dsimp only; rw [if_pos (by simpa using hx)]) q
theorem ok_iretc {x : Int} (hi : am_ins mi pc = some .ireturn) (ht : am_rt mi = some .char) (hx : 0 ≤ x ∧ x < 65536) (q : Q (.inl (some (aI x))) g M) : Ok d mi pc ls [aI x] g M Q := ok_ret hi (by unfold am_ret am_rok; dsimp only; rw [ht]; dsimp only; rw [if_pos (by simpa using hx)]) q
theorem ok_iretb {x : Int} (hi : am_ins mi pc = some .ireturn) (ht : am_rt mi = some .byte) (hx : -128 ≤ x ∧ x < 128) (q : Q (.inl (some (aI x))) g M) : Ok d mi pc ls [aI x] g M Q := ok_ret hi (by unfold am_ret am_rok; dsimp only; rw [ht]; dsimp only; rw [if_pos (by simpa using hx)]) q
theorem ok_vret (hi : am_ins mi pc = some .return_) (ht : am_rt mi = none) (q : Q (.inl none) g M) : Ok d mi pc ls [] g M Q := ok_ret hi (by unfold am_ret; dsimp only; rw [if_pos ht]) q
theorem ok_tsw {dflt lo hi2 x : Int} {offs : Array Int} (hi : am_ins mi pc = some (.tableswitch dflt lo hi2 offs)) (hx : rg1 x) {off : Int} (h : (lo ≤ x ∧ x ≤ hi2 ∧ offs[(x - lo).toNat]? = some off) ∨ ((x < lo ∨ hi2 < x) ∧ off = dflt)) (hp : (pc : Int) + off = (pc' : Nat)) (k : Ok d mi pc' ls st g M Q) : Ok d mi pc ls (aI x :: st) g M Q := by
  refine ok_step hi rfl rfl ?_ k
  show (if wr x < lo ∨ hi2 < wr x then am_jmp pc dflt ls st g M else match offs[(wr x - lo).toNat]? with | some off => am_jmp pc off ls st g M | none => none) = _
  rw [hx.wr]
  have hj : am_jmp pc off ls st g M = some (pc', ls, st, g, M) := by
    unfold am_jmp
    rw [if_pos (by omega), show ((pc : Int) + off).toNat = pc' by omega]
  rcases h with ⟨h1, h2, h3⟩ | ⟨h1, h2⟩
  · rw [if_neg (by omega), h3]
    exact hj
  · rw [if_pos h1, ← h2]
    exact hj
theorem ok_null (hi : am_ins mi pc = some .aconst_null) (hp : pc + 1 = pc') (k : Ok d mi pc' ls (aR 0 :: st) g M Q) : Ok d mi pc ls st g M Q := ok_step hi rfl rfl (by subst hp; rfl) k
theorem ok_ineg {x v : Int} (hi : am_ins mi pc = some .ineg) (hv : -x = v) (hp : pc + 1 = pc') (k : Ok d mi pc' ls (aI v :: st) g M Q) : Ok d mi pc ls (aI x :: st) g M Q := ok_step hi rfl rfl (by subst hp; subst hv; rfl) k
theorem ok_dupx1 {v w : AV} (hi : am_ins mi pc = some .dup_x1) (hc : am_cat v = 1 ∧ am_cat w = 1) (hp : pc + 1 = pc') (k : Ok d mi pc' ls (v :: w :: v :: st) g M Q) : Ok d mi pc ls (v :: w :: st) g M Q := ok_step hi rfl rfl (by subst hp; show (if am_cat v = 1 ∧ am_cat w = 1 then _ else _) = _; rw [if_pos hc]) k
theorem am_nul0 : am_nul 0 = some true := rfl
theorem am_nul1 {a : Nat} (h : 100 ≤ a ∨ 10 ≤ a ∧ a < 42) : am_nul a = some false := by unfold am_nul; rw [if_neg (by omega), if_pos h]
theorem ok_ifnull1 {off : Int} (hi : am_ins mi pc = some (.ifnull off)) (hp : (pc : Int) + off = (pc1 : Nat)) (k1 : Ok d mi pc1 ls st g M Q) : Ok d mi pc ls (aR 0 :: st) g M Q := ok_step hi rfl rfl (by
  show (match am_nul 0 with | some b => am_if b pc off ls st g M | none => none) = _
  rw [am_nul0]
  show am_if true pc off ls st g M = _
  unfold am_if
  rw [if_pos (by omega), if_pos rfl, show ((pc : Int) + off).toNat = pc1 by omega]) k1
theorem ok_ifnull0 {off : Int} (hi : am_ins mi pc = some (.ifnull off)) (ha : 100 ≤ a ∨ 10 ≤ a ∧ a < 42) (h0 : 0 ≤ (pc : Int) + off) (hp : pc + 3 = pc1) (k1 : Ok d mi pc1 ls st g M Q) : Ok d mi pc ls (aR a :: st) g M Q := ok_step hi rfl rfl (by
  subst hp
  show (match am_nul a with | some b => am_if b pc off ls st g M | none => none) = _
  rw [am_nul1 ha]
  show am_if false pc off ls st g M = _
  unfold am_if
  rw [if_pos h0, if_neg (by decide)]) k1
theorem ok_ifnn1 {off : Int} (hi : am_ins mi pc = some (.ifnonnull off)) (h0 : 0 ≤ (pc : Int) + off) (hp : pc + 3 = pc1) (k1 : Ok d mi pc1 ls st g M Q) : Ok d mi pc ls (aR 0 :: st) g M Q := ok_step hi rfl rfl (by
  subst hp
  show (match am_nul 0 with | some b => am_if (!b) pc off ls st g M | none => none) = _
  rw [am_nul0]
  show am_if false pc off ls st g M = _
  unfold am_if
  rw [if_pos h0, if_neg (by decide)]) k1
theorem ok_ifnn0 {off : Int} (hi : am_ins mi pc = some (.ifnonnull off)) (ha : 100 ≤ a ∨ 10 ≤ a ∧ a < 42) (hp : (pc : Int) + off = (pc1 : Nat)) (k1 : Ok d mi pc1 ls st g M Q) : Ok d mi pc ls (aR a :: st) g M Q := ok_step hi rfl rfl (by
  show (match am_nul a with | some b => am_if (!b) pc off ls st g M | none => none) = _
  rw [am_nul1 ha]
  show am_if true pc off ls st g M = _
  unfold am_if
  rw [if_pos (by omega), if_pos rfl, show ((pc : Int) + off).toNat = pc1 by omega]) k1
theorem ok_ldc2 (hi : am_ins mi pc = some (.ldc2_w 133)) (ho : am_oc mi = 13) (hp : pc + 3 = pc') (k : Ok d mi pc' ls (aL (-99) :: st) g M Q) : Ok d mi pc ls st g M Q := ok_step hi rfl rfl (by subst hp; show (if am_oc mi = 13 ∧ 133 = 133 then some (pc + 3, ls, aL (-99) :: st, g, M) else none) = _; rw [if_pos ⟨ho, rfl⟩]) k
theorem ok_ldct {x : Int} (hi : am_ins mi pc = some (.ldc idx)) (ho : am_oc mi = oc) (hs : (am_ct oc idx).map (fun q => q.2.1) = some x) (hp : pc + 2 = pc') (k : Ok d mi pc' ls (aI x :: st) g M Q) : Ok d mi pc ls st g M Q := by
  cases e : am_ct oc idx with
  | none => rw [e] at hs; cases hs
  | some q =>
    rw [e] at hs
    obtain ⟨z1, y, z2⟩ := q
    have hx : y = x := Option.some.inj hs
    subst hx
    refine ok_step hi rfl rfl ?_ k
    subst hp
    show (match am_ct (am_oc mi) idx with | some (_, x, _) => some (pc + 2, ls, aI x :: st, g, M) | none => match am_sr (am_oc mi) idx with | some (_, c, _) => some (pc + 2, ls, aR c :: st, g, M) | none => none) = _
    rw [ho, e]
theorem ok_ldcz {c : Nat} (hi : am_ins mi pc = some (.ldc idx)) (ho : am_oc mi = oc) (hn : am_ct oc idx = none) (hs : (am_sr oc idx).map (fun q => q.2.1) = some c) (hp : pc + 2 = pc') (k : Ok d mi pc' ls (aR c :: st) g M Q) : Ok d mi pc ls st g M Q := by
  cases e : am_sr oc idx with
  | none => rw [e] at hs; cases hs
  | some q =>
    rw [e] at hs
    obtain ⟨z1, y, z2⟩ := q
    have hx : y = c := Option.some.inj hs
    subst hx
    refine ok_step hi rfl rfl ?_ k
    subst hp
    show (match am_ct (am_oc mi) idx with | some (_, x, _) => some (pc + 2, ls, aI x :: st, g, M) | none => match am_sr (am_oc mi) idx with | some (_, c, _) => some (pc + 2, ls, aR c :: st, g, M) | none => none) = _
    rw [ho, hn]
    dsimp only
    rw [e]
theorem ok_gsta (hi : am_ins mi pc = some (.getstatic 18)) (ho : am_oc mi = 24) (hp : pc + 3 = pc') (k : Ok d mi pc' ls (aI 1 :: st) g M Q) : Ok d mi pc ls st g M Q := ok_step hi rfl rfl (by
  subst hp
  show (if am_oc mi = 14 ∧ 18 = 38 ∨ am_oc mi = 24 ∧ 18 = 18 then _ else _) = _
  rw [if_pos (Or.inr ⟨ho, rfl⟩)]) k
theorem ok_gst50 (hi : am_ins mi pc = some (.getstatic 83)) (ho : am_oc mi = 27) (hp : pc + 3 = pc') (k : Ok d mi pc' ls (aR 50 :: st) g M Q) : Ok d mi pc ls st g M Q := ok_step hi rfl rfl (by
  subst hp
  show (if am_oc mi = 14 ∧ 83 = 38 ∨ am_oc mi = 24 ∧ 83 = 18 then _ else if am_oc mi = 14 ∧ 83 = 1053 then _ else if am_oc mi = 27 ∧ 83 = 83 then _ else _) = _
  rw [if_neg (by omega), if_neg (by omega), if_pos ⟨ho, rfl⟩]) k
theorem ok_gst51 (hi : am_ins mi pc = some (.getstatic 87)) (ho : am_oc mi = 27) (hp : pc + 3 = pc') (k : Ok d mi pc' ls (aR 51 :: st) g M Q) : Ok d mi pc ls st g M Q := ok_step hi rfl rfl (by
  subst hp
  show (if am_oc mi = 14 ∧ 87 = 38 ∨ am_oc mi = 24 ∧ 87 = 18 then _ else if am_oc mi = 14 ∧ 87 = 1053 then _ else if am_oc mi = 27 ∧ 87 = 83 then _ else if am_oc mi = 27 ∧ 87 = 87 then _ else _) = _
  rw [if_neg (by omega), if_neg (by omega), if_neg (by omega), if_pos ⟨ho, rfl⟩]) k
theorem ok_aret {r : Nat} (hi : am_ins mi pc = some .areturn) (ht : (match am_rt mi with | some (.object _) => true | some (.array _) => true | _ => false) = true) (q : Q (.inl (some (aR r))) g M) : Ok d mi pc ls [aR r] g M Q := ok_ret hi (by
  unfold am_ret
  dsimp only
  split at ht
  · next e => rw [e]
  · next e => rw [e]
  · cases ht) q
theorem ok_lret {x : Int} (hi : am_ins mi pc = some .lreturn) (ht : am_rt mi = some .long) (q : Q (.inl (some (aL x))) g M) : Ok d mi pc ls [aL x] g M Q := ok_ret hi (by unfold am_ret; dsimp only; rw [if_pos ht]) q
def am_csk (oc idx ci : Nat) : Bool := match am_cs oc idx with
  | some (_, c, _) => decide (c = ci)
  | none => false
theorem ok_cast (hi : am_ins mi pc = some (.checkcast idx)) (ho : am_oc mi = oc) (hc : am_csk oc idx 21 = true) (hk : gK g a = 21) (hp : pc + 3 = pc') (k : Ok d mi pc' ls (aR a :: st) g M Q) : Ok d mi pc ls (aR a :: st) g M Q := by
  unfold am_csk at hc
  split at hc
  · next z c z2 e =>
    have hcc : c = 21 := of_decide_eq_true hc
    subst hcc; subst hp
    refine ok_step hi rfl rfl ?_ k
    show (match am_cs (am_oc mi) idx with | some (_, ci, _) => if ci = 21 ∧ gK g a = 21 then some (pc + 3, ls, aR a :: st, g, M) else none | none => none) = _
    rw [ho, e]
    dsimp only
    rw [if_pos ⟨rfl, hk⟩]
  · cases hc
theorem ok_clone (hi : am_ins mi pc = some (.invokevirtual idx)) (ho : am_oc mi = oc) (hm : am_mlk oc idx 11 0 = true) (hk : gK g a = 21) (hs : (st.map am_cat).sum ≤ 8) (hp : pc + 3 = pc') (k : Ok d mi pc' ls (aR (100 + gN g) :: st) (am_alloc g 21 (gL g a) (gL g a)) (upM M (100 + gN g) (M a)) Q) : Ok d mi pc ls (aR a :: st) g M Q := by
  obtain ⟨z1, z2, e⟩ := am_mlk_ok ho hm
  subst hp
  refine ok_step hi rfl ?_ ?_ k
  · unfold am_call; dsimp only; rw [e]; rfl
  · show (match am_ml (am_oc mi) idx with | some (_, 11, _) => am_clone pc ls (aR a :: st) g M | _ => none) = _
    rw [e]
    show am_clone pc ls (aR a :: st) g M = _
    unfold am_clone
    dsimp only
    rw [if_pos ⟨hk, hs⟩]
theorem ok_new (hi : am_ins mi pc = some (.new idx)) (ho : am_oc mi = oc) (hc : am_csk oc idx ci = true) (h10 : am_ob ci) (hp : pc + 3 = pc') (k : Ok d mi pc' ls (aR (100 + gN g) :: st) (am_alloc g ci 0 (am_inst.getD ci 0)) (am_zero g M) Q) : Ok d mi pc ls st g M Q := by
  unfold am_csk at hc
  split at hc
  · next z c z2 e =>
    have hcc : c = ci := of_decide_eq_true hc
    subst hcc; subst hp
    refine ok_step hi rfl rfl ?_ k
    show (match am_cs (am_oc mi) idx with | some (_, ci, _) => if am_ob ci then some (pc + 3, ls, aR (100 + gN g) :: st, am_alloc g ci 0 (am_inst.getD ci 0), am_zero g M) else none | none => none) = _
    rw [ho, e]
    dsimp only
    rw [if_pos h10]
  · cases hc
theorem ok_newarr {t : ArrayType} {x : Int} (hi : am_ins mi pc = some (.newarray t)) (h0 : am_aat t ≠ 0) (hx : 0 ≤ x ∧ x ≤ 100000) (hp : pc + 2 = pc') (k : Ok d mi pc' ls (aR (100 + gN g) :: st) (am_alloc g (am_aat t) x.toNat x.toNat) (am_zero g M) Q) : Ok d mi pc ls (aI x :: st) g M Q := by
  subst hp
  refine ok_step hi rfl rfl ?_ k
  show (if am_aat t ≠ 0 ∧ 0 ≤ x ∧ x ≤ 100000 then _ else none) = _
  rw [if_pos ⟨h0, hx⟩]
theorem ok_anew {x : Int} (hi : am_ins mi pc = some (.anewarray idx)) (ho : am_oc mi = oc) (hc : am_csk oc idx ci = true) (hk : am_aar ci = kd) (h0 : kd ≠ 0) (hx : 0 ≤ x ∧ x ≤ 100000) (hp : pc + 3 = pc') (k : Ok d mi pc' ls (aR (100 + gN g) :: st) (am_alloc g kd x.toNat x.toNat) (am_zero g M) Q) : Ok d mi pc ls (aI x :: st) g M Q := by
  unfold am_csk at hc
  split at hc
  · next z c z2 e =>
    have hcc : c = ci := of_decide_eq_true hc
    subst hcc; subst hp; subst hk
    refine ok_step hi rfl rfl ?_ k
    show (match am_cs (am_oc mi) idx with | some (_, ci, _) => if am_aar ci ≠ 0 ∧ 0 ≤ x ∧ x ≤ 100000 then _ else none | none => none) = _
    rw [ho, e]
    dsimp only
    rw [if_pos ⟨h0, hx⟩]
  · cases hc
theorem ok_aast {v : Nat} {x : Int} (hi : am_ins mi pc = some .aastore) (hk : gK g a = 26 ∧ gK g v = 5 ∨ gK g a = 25 ∧ gK g v = 20 ∨ gK g a = 23 ∧ gK g v = 16 ∨ gK g a = 24 ∧ gK g v = 15) (hx : 0 ≤ x ∧ x < (gL g a : Int)) (hp : pc + 1 = pc') (k : Ok d mi pc' ls st (gN g, gS g, gK g, gL g, up2R (gR g) a x v) M Q) : Ok d mi pc ls (aR v :: aI x :: aR a :: st) g M Q := by
  subst hp
  refine ok_step hi rfl rfl ?_ k
  show (if (gK g a = 26 ∧ gK g v = 5 ∨ gK g a = 25 ∧ gK g v = 20 ∨ gK g a = 23 ∧ gK g v = 16 ∨ gK g a = 24 ∧ gK g v = 15) ∧ 0 ≤ x ∧ x < gL g a then some (pc + 1, ls, st, (gN g, gS g, gK g, gL g, up2R (gR g) a x v), M) else none) = _
  rw [if_pos ⟨hk, hx⟩]
def am_pfb (mi oc idx ci k : Nat) : Bool := match am_fl oc idx with
  | some (_, c, j, _) => decide (c = ci) && decide (j = k) && decide (k < am_nf ci) && am_finok mi ci k && decide (am_fkd ci k % 4 = 3)
  | none => false
theorem ok_putfb {x : Int} (hi : am_ins mi pc = some (.putfield idx)) (ho : am_oc mi = oc) (hf : am_pfb mi oc idx ci k0 = true) (hk : gK g a = ci) (hx : -128 ≤ x ∧ x < 128) (hp : pc + 3 = pc') (k : Ok d mi pc' ls st g (up2 M a k0 x) Q) : Ok d mi pc ls (aI x :: aR a :: st) g M Q := by
  unfold am_pfb at hf
  split at hf
  · next z c j z2 e =>
    simp only [Bool.and_eq_true, decide_eq_true_eq] at hf
    obtain ⟨⟨⟨⟨rfl, rfl⟩, h2⟩, h3⟩, h4⟩ := hf
    subst hp
    refine ok_step hi rfl rfl ?_ k
    show am_putf mi pc idx ls (aI x :: aR a :: st) g M = _
    unfold am_putf
    dsimp only
    rw [ho, e]
    dsimp only
    rw [if_pos ⟨hk, h2, h3, Or.inr (Or.inr ⟨h4, hx⟩)⟩]
  · cases hf
end OK
/-- reading behind writing -/
theorem rd_eq {M : AM} {a : Nat} {x v : Int} : up2 M a x v a x = v := by unfold up2 upM upI; rw [if_pos rfl]; simp
theorem rd_eq' {M : AM} {a : Nat} {x y v : Int} (h : y = x) : up2 M a x v a y = v := by subst h; exact rd_eq
theorem rd_na {M : AM} {a b : Nat} {x y v w : Int} (h : b ≠ a) (k : M b y = w) : up2 M a x v b y = w := by unfold up2 upM; rw [if_neg h]; exact k
theorem rd_ni {M : AM} {a : Nat} {x y v w : Int} (h : y ≠ x) (k : M a y = w) : up2 M a x v a y = w := by unfold up2 upM upI; rw [if_pos rfl]; show (if y = x then v else M a y) = w; rw [if_neg h]; exact k
theorem rd_nM {M : AM} {a b : Nat} {f : Int → Int} {y w : Int} (h : b ≠ a) (k : M b y = w) : upM M a f b y = w := by unfold upM; rw [if_neg h]; exact k
theorem up2_na {M : AM} {a b : Nat} {x v : Int} (h : b ≠ a) : up2 M a x v b = M b := by unfold up2 upM; rw [if_neg h]
theorem up2_at {M : AM} {a : Nat} {x v : Int} : up2 M a x v a = upI (M a) x v := by unfold up2 upM; rw [if_pos rfl]
theorem upM_na {M : AM} {a b : Nat} {f : Int → Int} (h : b ≠ a) : upM M a f b = M b := by unfold upM; rw [if_neg h]
theorem upM_at {M : AM} {a : Nat} {f : Int → Int} : upM M a f a = f := by unfold upM; rw [if_pos rfl]
