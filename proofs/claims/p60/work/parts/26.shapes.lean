/-! RUNS OF THE SMALL MACHINE: pure callees, known branches; the objects' shapes (by program, wip/gen/shapes.py) -/
section OK
variable {d mi pc pc' pc1 pc2 oc idx ci k0 kd n a : Nat} {ls ls' st st' : List AV} {g g' : AG} {M M' : AM} {Q : AO → AG → AM → Prop} {i : Instr}
theorem ok_cp {y d0 : Nat} {as rest ls0 : List AV} {v : AV} (hi : am_ins mi pc = some i) (h1 : am_ret mi pc i st g = none) (h2 : am_call mi i st g = some (y, as, rest)) (hl : as.length ≤ am_nL y) (hpad : am_pad y as = ls0) (hd : d0 ≤ d) (hs : Ok d0 y 0 ls0 [] g M (Rt (some v) g (fun M9 => M9 = M))) (hp : pc + 3 = pc') (k : Ok (d + 1) mi pc' ls (v :: rest) g M Q) : Ok (d + 1) mi pc ls st g M Q :=
  ok_cn hi h1 h2 hl hpad hd hs hp (fun M1 e => by rw [e]; exact k)
theorem ok_kc1 {o : ClassFile.Cond} {off x y : Int} (hi : am_ins mi pc = some (.if_icmp o off)) (h : am_cmp o x y = true) (hp : (pc : Int) + off = (pc1 : Nat)) (hp2 : pc + 3 = pc2) (k1 : Ok d mi pc1 ls st g M Q) : Ok d mi pc ls (aI y :: aI x :: st) g M Q := ok_icmp hi hp hp2 (fun _ => k1) (fun q => by rw [h] at q; cases q)
theorem ok_kc0 {o : ClassFile.Cond} {off x y : Int} (hi : am_ins mi pc = some (.if_icmp o off)) (h : am_cmp o x y = false) (hp : (pc : Int) + off = (pc1 : Nat)) (hp2 : pc + 3 = pc2) (k2 : Ok d mi pc2 ls st g M Q) : Ok d mi pc ls (aI y :: aI x :: st) g M Q := ok_icmp hi hp hp2 (fun q => by rw [h] at q; cases q) (fun _ => k2)
theorem ok_kz1 {o : ClassFile.Cond} {off x : Int} (hi : am_ins mi pc = some (.ifCond o off)) (h : am_cmp o x 0 = true) (hp : (pc : Int) + off = (pc1 : Nat)) (hp2 : pc + 3 = pc2) (k1 : Ok d mi pc1 ls st g M Q) : Ok d mi pc ls (aI x :: st) g M Q := ok_if hi hp hp2 (fun _ => k1) (fun q => by rw [h] at q; cases q)
theorem ok_kz0 {o : ClassFile.Cond} {off x : Int} (hi : am_ins mi pc = some (.ifCond o off)) (h : am_cmp o x 0 = false) (hp : (pc : Int) + off = (pc1 : Nat)) (hp2 : pc + 3 = pc2) (k2 : Ok d mi pc2 ls st g M Q) : Ok d mi pc ls (aI x :: st) g M Q := ok_if hi hp hp2 (fun q => by rw [h] at q; cases q) (fun _ => k2)
end OK
theorem bt {a b : Nat} (h : Nat.ble a b = true) : a ≤ b := Nat.le_of_ble_eq_true h
def ShState (g : AG) (B : Nat) : Prop := (∀ j : Nat, j < 24 → gK g (B + j) = ([5, 20, 25, 20, 20, 20, 20, 20, 25, 20, 20, 20, 20, 20, 20, 20, 20, 20, 25, 20, 20, 20, 20, 20] : List Nat).getD j 0 ∧ gL g (B + j) = ([0, 2, 5, 80, 80, 80, 80, 80, 8, 16, 16, 16, 16, 16, 16, 16, 16, 201, 4, 60, 60, 60, 60, 8] : List Nat).getD j 0) ∧ gR g B 1 = (B + 1) ∧ gR g B 3 = (B + 2) ∧ gR g B 5 = (B + 8) ∧ gR g B 6 = (B + 17) ∧ gR g B 8 = (B + 18) ∧ gR g B 9 = (B + 23) ∧ (∀ j : Nat, j < 5 → gR g (B + 2) (j : Int) = B + 3 + j) ∧ (∀ j : Nat, j < 8 → gR g (B + 8) (j : Int) = B + 9 + j) ∧ (∀ j : Nat, j < 4 → gR g (B + 18) (j : Int) = B + 19 + j)
theorem ShState_k0 {g : AG} {B : Nat} (h : ShState g B) : gK g B = 5 := (h.1 0 (by decide)).1
theorem ShState_k1 {g : AG} {B : Nat} (h : ShState g B) : gK g (B + 1) = 20 := (h.1 1 (by decide)).1
theorem ShState_l1 {g : AG} {B : Nat} (h : ShState g B) : gL g (B + 1) = 2 := (h.1 1 (by decide)).2
theorem ShState_k2 {g : AG} {B : Nat} (h : ShState g B) : gK g (B + 2) = 25 := (h.1 2 (by decide)).1
theorem ShState_l2 {g : AG} {B : Nat} (h : ShState g B) : gL g (B + 2) = 5 := (h.1 2 (by decide)).2
theorem ShState_k3 {g : AG} {B : Nat} (h : ShState g B) : gK g (B + 3) = 20 := (h.1 3 (by decide)).1
theorem ShState_l3 {g : AG} {B : Nat} (h : ShState g B) : gL g (B + 3) = 80 := (h.1 3 (by decide)).2
theorem ShState_k4 {g : AG} {B : Nat} (h : ShState g B) : gK g (B + 4) = 20 := (h.1 4 (by decide)).1
theorem ShState_l4 {g : AG} {B : Nat} (h : ShState g B) : gL g (B + 4) = 80 := (h.1 4 (by decide)).2
theorem ShState_k5 {g : AG} {B : Nat} (h : ShState g B) : gK g (B + 5) = 20 := (h.1 5 (by decide)).1
theorem ShState_l5 {g : AG} {B : Nat} (h : ShState g B) : gL g (B + 5) = 80 := (h.1 5 (by decide)).2
theorem ShState_k6 {g : AG} {B : Nat} (h : ShState g B) : gK g (B + 6) = 20 := (h.1 6 (by decide)).1
theorem ShState_l6 {g : AG} {B : Nat} (h : ShState g B) : gL g (B + 6) = 80 := (h.1 6 (by decide)).2
theorem ShState_k7 {g : AG} {B : Nat} (h : ShState g B) : gK g (B + 7) = 20 := (h.1 7 (by decide)).1
theorem ShState_l7 {g : AG} {B : Nat} (h : ShState g B) : gL g (B + 7) = 80 := (h.1 7 (by decide)).2
theorem ShState_k8 {g : AG} {B : Nat} (h : ShState g B) : gK g (B + 8) = 25 := (h.1 8 (by decide)).1
theorem ShState_l8 {g : AG} {B : Nat} (h : ShState g B) : gL g (B + 8) = 8 := (h.1 8 (by decide)).2
theorem ShState_k9 {g : AG} {B : Nat} (h : ShState g B) : gK g (B + 9) = 20 := (h.1 9 (by decide)).1
theorem ShState_l9 {g : AG} {B : Nat} (h : ShState g B) : gL g (B + 9) = 16 := (h.1 9 (by decide)).2
theorem ShState_k10 {g : AG} {B : Nat} (h : ShState g B) : gK g (B + 10) = 20 := (h.1 10 (by decide)).1
theorem ShState_l10 {g : AG} {B : Nat} (h : ShState g B) : gL g (B + 10) = 16 := (h.1 10 (by decide)).2
theorem ShState_k11 {g : AG} {B : Nat} (h : ShState g B) : gK g (B + 11) = 20 := (h.1 11 (by decide)).1
theorem ShState_l11 {g : AG} {B : Nat} (h : ShState g B) : gL g (B + 11) = 16 := (h.1 11 (by decide)).2
theorem ShState_k12 {g : AG} {B : Nat} (h : ShState g B) : gK g (B + 12) = 20 := (h.1 12 (by decide)).1
theorem ShState_l12 {g : AG} {B : Nat} (h : ShState g B) : gL g (B + 12) = 16 := (h.1 12 (by decide)).2
theorem ShState_k13 {g : AG} {B : Nat} (h : ShState g B) : gK g (B + 13) = 20 := (h.1 13 (by decide)).1
theorem ShState_l13 {g : AG} {B : Nat} (h : ShState g B) : gL g (B + 13) = 16 := (h.1 13 (by decide)).2
theorem ShState_k14 {g : AG} {B : Nat} (h : ShState g B) : gK g (B + 14) = 20 := (h.1 14 (by decide)).1
theorem ShState_l14 {g : AG} {B : Nat} (h : ShState g B) : gL g (B + 14) = 16 := (h.1 14 (by decide)).2
theorem ShState_k15 {g : AG} {B : Nat} (h : ShState g B) : gK g (B + 15) = 20 := (h.1 15 (by decide)).1
theorem ShState_l15 {g : AG} {B : Nat} (h : ShState g B) : gL g (B + 15) = 16 := (h.1 15 (by decide)).2
theorem ShState_k16 {g : AG} {B : Nat} (h : ShState g B) : gK g (B + 16) = 20 := (h.1 16 (by decide)).1
theorem ShState_l16 {g : AG} {B : Nat} (h : ShState g B) : gL g (B + 16) = 16 := (h.1 16 (by decide)).2
theorem ShState_k17 {g : AG} {B : Nat} (h : ShState g B) : gK g (B + 17) = 20 := (h.1 17 (by decide)).1
theorem ShState_l17 {g : AG} {B : Nat} (h : ShState g B) : gL g (B + 17) = 201 := (h.1 17 (by decide)).2
theorem ShState_k18 {g : AG} {B : Nat} (h : ShState g B) : gK g (B + 18) = 25 := (h.1 18 (by decide)).1
theorem ShState_l18 {g : AG} {B : Nat} (h : ShState g B) : gL g (B + 18) = 4 := (h.1 18 (by decide)).2
theorem ShState_k19 {g : AG} {B : Nat} (h : ShState g B) : gK g (B + 19) = 20 := (h.1 19 (by decide)).1
theorem ShState_l19 {g : AG} {B : Nat} (h : ShState g B) : gL g (B + 19) = 60 := (h.1 19 (by decide)).2
theorem ShState_k20 {g : AG} {B : Nat} (h : ShState g B) : gK g (B + 20) = 20 := (h.1 20 (by decide)).1
theorem ShState_l20 {g : AG} {B : Nat} (h : ShState g B) : gL g (B + 20) = 60 := (h.1 20 (by decide)).2
theorem ShState_k21 {g : AG} {B : Nat} (h : ShState g B) : gK g (B + 21) = 20 := (h.1 21 (by decide)).1
theorem ShState_l21 {g : AG} {B : Nat} (h : ShState g B) : gL g (B + 21) = 60 := (h.1 21 (by decide)).2
theorem ShState_k22 {g : AG} {B : Nat} (h : ShState g B) : gK g (B + 22) = 20 := (h.1 22 (by decide)).1
theorem ShState_l22 {g : AG} {B : Nat} (h : ShState g B) : gL g (B + 22) = 60 := (h.1 22 (by decide)).2
theorem ShState_k23 {g : AG} {B : Nat} (h : ShState g B) : gK g (B + 23) = 20 := (h.1 23 (by decide)).1
theorem ShState_l23 {g : AG} {B : Nat} (h : ShState g B) : gL g (B + 23) = 8 := (h.1 23 (by decide)).2
theorem ShState_r1 {g : AG} {B : Nat} (h : ShState g B) : gR g B 1 = (B + 1) := h.2.1
theorem ShState_r3 {g : AG} {B : Nat} (h : ShState g B) : gR g B 3 = (B + 2) := h.2.2.1
theorem ShState_r5 {g : AG} {B : Nat} (h : ShState g B) : gR g B 5 = (B + 8) := h.2.2.2.1
theorem ShState_r6 {g : AG} {B : Nat} (h : ShState g B) : gR g B 6 = (B + 17) := h.2.2.2.2.1
theorem ShState_r8 {g : AG} {B : Nat} (h : ShState g B) : gR g B 8 = (B + 18) := h.2.2.2.2.2.1
theorem ShState_r9 {g : AG} {B : Nat} (h : ShState g B) : gR g B 9 = (B + 23) := h.2.2.2.2.2.2.1
theorem ShState_e2_0 {g : AG} {B : Nat} (h : ShState g B) : gR g (B + 2) 0 = (B + 3) := h.2.2.2.2.2.2.2.1 0 (by decide)
theorem ShState_e2_1 {g : AG} {B : Nat} (h : ShState g B) : gR g (B + 2) 1 = (B + 4) := h.2.2.2.2.2.2.2.1 1 (by decide)
theorem ShState_e2_2 {g : AG} {B : Nat} (h : ShState g B) : gR g (B + 2) 2 = (B + 5) := h.2.2.2.2.2.2.2.1 2 (by decide)
theorem ShState_e2_3 {g : AG} {B : Nat} (h : ShState g B) : gR g (B + 2) 3 = (B + 6) := h.2.2.2.2.2.2.2.1 3 (by decide)
theorem ShState_e2_4 {g : AG} {B : Nat} (h : ShState g B) : gR g (B + 2) 4 = (B + 7) := h.2.2.2.2.2.2.2.1 4 (by decide)
theorem ShState_ev2 {g : AG} {B : Nat} (h : ShState g B) {x : Int} (h0 : 0 ≤ x) (h1 : x < 5) : gR g (B + 2) x = B + 3 + x.toNat := by
  have h9 := h.2.2.2.2.2.2.2.1 x.toNat (by omega)
  rw [Int.toNat_of_nonneg h0] at h9
  exact h9
theorem ShState_kv2 {g : AG} {B : Nat} (h : ShState g B) {x : Int} (h0 : 0 ≤ x) (h1 : x < 5) : gK g (B + 3 + x.toNat) = 20 := by
  rcases (show x = 0 ∨ x = 1 ∨ x = 2 ∨ x = 3 ∨ x = 4 by omega) with rfl | rfl | rfl | rfl | rfl
  · exact (h.1 3 (by decide)).1
  · exact (h.1 4 (by decide)).1
  · exact (h.1 5 (by decide)).1
  · exact (h.1 6 (by decide)).1
  · exact (h.1 7 (by decide)).1
theorem ShState_lv2 {g : AG} {B : Nat} (h : ShState g B) {x : Int} (h0 : 0 ≤ x) (h1 : x < 5) : gL g (B + 3 + x.toNat) = 80 := by
  rcases (show x = 0 ∨ x = 1 ∨ x = 2 ∨ x = 3 ∨ x = 4 by omega) with rfl | rfl | rfl | rfl | rfl
  · exact (h.1 3 (by decide)).2
  · exact (h.1 4 (by decide)).2
  · exact (h.1 5 (by decide)).2
  · exact (h.1 6 (by decide)).2
  · exact (h.1 7 (by decide)).2
theorem ShState_e8_0 {g : AG} {B : Nat} (h : ShState g B) : gR g (B + 8) 0 = (B + 9) := h.2.2.2.2.2.2.2.2.1 0 (by decide)
theorem ShState_e8_1 {g : AG} {B : Nat} (h : ShState g B) : gR g (B + 8) 1 = (B + 10) := h.2.2.2.2.2.2.2.2.1 1 (by decide)
theorem ShState_e8_2 {g : AG} {B : Nat} (h : ShState g B) : gR g (B + 8) 2 = (B + 11) := h.2.2.2.2.2.2.2.2.1 2 (by decide)
theorem ShState_e8_3 {g : AG} {B : Nat} (h : ShState g B) : gR g (B + 8) 3 = (B + 12) := h.2.2.2.2.2.2.2.2.1 3 (by decide)
theorem ShState_e8_4 {g : AG} {B : Nat} (h : ShState g B) : gR g (B + 8) 4 = (B + 13) := h.2.2.2.2.2.2.2.2.1 4 (by decide)
theorem ShState_e8_5 {g : AG} {B : Nat} (h : ShState g B) : gR g (B + 8) 5 = (B + 14) := h.2.2.2.2.2.2.2.2.1 5 (by decide)
theorem ShState_e8_6 {g : AG} {B : Nat} (h : ShState g B) : gR g (B + 8) 6 = (B + 15) := h.2.2.2.2.2.2.2.2.1 6 (by decide)
theorem ShState_e8_7 {g : AG} {B : Nat} (h : ShState g B) : gR g (B + 8) 7 = (B + 16) := h.2.2.2.2.2.2.2.2.1 7 (by decide)
theorem ShState_ev8 {g : AG} {B : Nat} (h : ShState g B) {x : Int} (h0 : 0 ≤ x) (h1 : x < 8) : gR g (B + 8) x = B + 9 + x.toNat := by
  have h9 := h.2.2.2.2.2.2.2.2.1 x.toNat (by omega)
  rw [Int.toNat_of_nonneg h0] at h9
  exact h9
theorem ShState_kv8 {g : AG} {B : Nat} (h : ShState g B) {x : Int} (h0 : 0 ≤ x) (h1 : x < 8) : gK g (B + 9 + x.toNat) = 20 := by
  rcases (show x = 0 ∨ x = 1 ∨ x = 2 ∨ x = 3 ∨ x = 4 ∨ x = 5 ∨ x = 6 ∨ x = 7 by omega) with rfl | rfl | rfl | rfl | rfl | rfl | rfl | rfl
  · exact (h.1 9 (by decide)).1
  · exact (h.1 10 (by decide)).1
  · exact (h.1 11 (by decide)).1
  · exact (h.1 12 (by decide)).1
  · exact (h.1 13 (by decide)).1
  · exact (h.1 14 (by decide)).1
  · exact (h.1 15 (by decide)).1
  · exact (h.1 16 (by decide)).1
theorem ShState_lv8 {g : AG} {B : Nat} (h : ShState g B) {x : Int} (h0 : 0 ≤ x) (h1 : x < 8) : gL g (B + 9 + x.toNat) = 16 := by
  rcases (show x = 0 ∨ x = 1 ∨ x = 2 ∨ x = 3 ∨ x = 4 ∨ x = 5 ∨ x = 6 ∨ x = 7 by omega) with rfl | rfl | rfl | rfl | rfl | rfl | rfl | rfl
  · exact (h.1 9 (by decide)).2
  · exact (h.1 10 (by decide)).2
  · exact (h.1 11 (by decide)).2
  · exact (h.1 12 (by decide)).2
  · exact (h.1 13 (by decide)).2
  · exact (h.1 14 (by decide)).2
  · exact (h.1 15 (by decide)).2
  · exact (h.1 16 (by decide)).2
theorem ShState_e18_0 {g : AG} {B : Nat} (h : ShState g B) : gR g (B + 18) 0 = (B + 19) := h.2.2.2.2.2.2.2.2.2 0 (by decide)
theorem ShState_e18_1 {g : AG} {B : Nat} (h : ShState g B) : gR g (B + 18) 1 = (B + 20) := h.2.2.2.2.2.2.2.2.2 1 (by decide)
theorem ShState_e18_2 {g : AG} {B : Nat} (h : ShState g B) : gR g (B + 18) 2 = (B + 21) := h.2.2.2.2.2.2.2.2.2 2 (by decide)
theorem ShState_e18_3 {g : AG} {B : Nat} (h : ShState g B) : gR g (B + 18) 3 = (B + 22) := h.2.2.2.2.2.2.2.2.2 3 (by decide)
theorem ShState_ev18 {g : AG} {B : Nat} (h : ShState g B) {x : Int} (h0 : 0 ≤ x) (h1 : x < 4) : gR g (B + 18) x = B + 19 + x.toNat := by
  have h9 := h.2.2.2.2.2.2.2.2.2 x.toNat (by omega)
  rw [Int.toNat_of_nonneg h0] at h9
  exact h9
theorem ShState_kv18 {g : AG} {B : Nat} (h : ShState g B) {x : Int} (h0 : 0 ≤ x) (h1 : x < 4) : gK g (B + 19 + x.toNat) = 20 := by
  rcases (show x = 0 ∨ x = 1 ∨ x = 2 ∨ x = 3 by omega) with rfl | rfl | rfl | rfl
  · exact (h.1 19 (by decide)).1
  · exact (h.1 20 (by decide)).1
  · exact (h.1 21 (by decide)).1
  · exact (h.1 22 (by decide)).1
theorem ShState_lv18 {g : AG} {B : Nat} (h : ShState g B) {x : Int} (h0 : 0 ≤ x) (h1 : x < 4) : gL g (B + 19 + x.toNat) = 60 := by
  rcases (show x = 0 ∨ x = 1 ∨ x = 2 ∨ x = 3 by omega) with rfl | rfl | rfl | rfl
  · exact (h.1 19 (by decide)).2
  · exact (h.1 20 (by decide)).2
  · exact (h.1 21 (by decide)).2
  · exact (h.1 22 (by decide)).2
def ShPlan (g : AG) (P : Nat) : Prop := (∀ j : Nat, j < 11 → gK g (P + j) = ([4, 20, 20, 20, 25, 20, 20, 20, 20, 20, 20] : List Nat).getD j 0 ∧ gL g (P + j) = ([0, 4, 4, 6, 6, 6, 6, 6, 6, 6, 6] : List Nat).getD j 0) ∧ gR g P 1 = (P + 1) ∧ gR g P 2 = (P + 2) ∧ gR g P 4 = (P + 3) ∧ gR g P 5 = (P + 4) ∧ (∀ j : Nat, j < 6 → gR g (P + 4) (j : Int) = P + 5 + j)
theorem ShPlan_k0 {g : AG} {P : Nat} (h : ShPlan g P) : gK g P = 4 := (h.1 0 (by decide)).1
theorem ShPlan_k1 {g : AG} {P : Nat} (h : ShPlan g P) : gK g (P + 1) = 20 := (h.1 1 (by decide)).1
theorem ShPlan_l1 {g : AG} {P : Nat} (h : ShPlan g P) : gL g (P + 1) = 4 := (h.1 1 (by decide)).2
theorem ShPlan_k2 {g : AG} {P : Nat} (h : ShPlan g P) : gK g (P + 2) = 20 := (h.1 2 (by decide)).1
theorem ShPlan_l2 {g : AG} {P : Nat} (h : ShPlan g P) : gL g (P + 2) = 4 := (h.1 2 (by decide)).2
theorem ShPlan_k3 {g : AG} {P : Nat} (h : ShPlan g P) : gK g (P + 3) = 20 := (h.1 3 (by decide)).1
theorem ShPlan_l3 {g : AG} {P : Nat} (h : ShPlan g P) : gL g (P + 3) = 6 := (h.1 3 (by decide)).2
theorem ShPlan_k4 {g : AG} {P : Nat} (h : ShPlan g P) : gK g (P + 4) = 25 := (h.1 4 (by decide)).1
theorem ShPlan_l4 {g : AG} {P : Nat} (h : ShPlan g P) : gL g (P + 4) = 6 := (h.1 4 (by decide)).2
theorem ShPlan_k5 {g : AG} {P : Nat} (h : ShPlan g P) : gK g (P + 5) = 20 := (h.1 5 (by decide)).1
theorem ShPlan_l5 {g : AG} {P : Nat} (h : ShPlan g P) : gL g (P + 5) = 6 := (h.1 5 (by decide)).2
theorem ShPlan_k6 {g : AG} {P : Nat} (h : ShPlan g P) : gK g (P + 6) = 20 := (h.1 6 (by decide)).1
theorem ShPlan_l6 {g : AG} {P : Nat} (h : ShPlan g P) : gL g (P + 6) = 6 := (h.1 6 (by decide)).2
theorem ShPlan_k7 {g : AG} {P : Nat} (h : ShPlan g P) : gK g (P + 7) = 20 := (h.1 7 (by decide)).1
theorem ShPlan_l7 {g : AG} {P : Nat} (h : ShPlan g P) : gL g (P + 7) = 6 := (h.1 7 (by decide)).2
theorem ShPlan_k8 {g : AG} {P : Nat} (h : ShPlan g P) : gK g (P + 8) = 20 := (h.1 8 (by decide)).1
theorem ShPlan_l8 {g : AG} {P : Nat} (h : ShPlan g P) : gL g (P + 8) = 6 := (h.1 8 (by decide)).2
theorem ShPlan_k9 {g : AG} {P : Nat} (h : ShPlan g P) : gK g (P + 9) = 20 := (h.1 9 (by decide)).1
theorem ShPlan_l9 {g : AG} {P : Nat} (h : ShPlan g P) : gL g (P + 9) = 6 := (h.1 9 (by decide)).2
theorem ShPlan_k10 {g : AG} {P : Nat} (h : ShPlan g P) : gK g (P + 10) = 20 := (h.1 10 (by decide)).1
theorem ShPlan_l10 {g : AG} {P : Nat} (h : ShPlan g P) : gL g (P + 10) = 6 := (h.1 10 (by decide)).2
theorem ShPlan_r1 {g : AG} {P : Nat} (h : ShPlan g P) : gR g P 1 = (P + 1) := h.2.1
theorem ShPlan_r2 {g : AG} {P : Nat} (h : ShPlan g P) : gR g P 2 = (P + 2) := h.2.2.1
theorem ShPlan_r4 {g : AG} {P : Nat} (h : ShPlan g P) : gR g P 4 = (P + 3) := h.2.2.2.1
theorem ShPlan_r5 {g : AG} {P : Nat} (h : ShPlan g P) : gR g P 5 = (P + 4) := h.2.2.2.2.1
theorem ShPlan_e4_0 {g : AG} {P : Nat} (h : ShPlan g P) : gR g (P + 4) 0 = (P + 5) := h.2.2.2.2.2 0 (by decide)
theorem ShPlan_e4_1 {g : AG} {P : Nat} (h : ShPlan g P) : gR g (P + 4) 1 = (P + 6) := h.2.2.2.2.2 1 (by decide)
theorem ShPlan_e4_2 {g : AG} {P : Nat} (h : ShPlan g P) : gR g (P + 4) 2 = (P + 7) := h.2.2.2.2.2 2 (by decide)
theorem ShPlan_e4_3 {g : AG} {P : Nat} (h : ShPlan g P) : gR g (P + 4) 3 = (P + 8) := h.2.2.2.2.2 3 (by decide)
theorem ShPlan_e4_4 {g : AG} {P : Nat} (h : ShPlan g P) : gR g (P + 4) 4 = (P + 9) := h.2.2.2.2.2 4 (by decide)
theorem ShPlan_e4_5 {g : AG} {P : Nat} (h : ShPlan g P) : gR g (P + 4) 5 = (P + 10) := h.2.2.2.2.2 5 (by decide)
theorem ShPlan_ev4 {g : AG} {P : Nat} (h : ShPlan g P) {x : Int} (h0 : 0 ≤ x) (h1 : x < 6) : gR g (P + 4) x = P + 5 + x.toNat := by
  have h9 := h.2.2.2.2.2 x.toNat (by omega)
  rw [Int.toNat_of_nonneg h0] at h9
  exact h9
theorem ShPlan_kv4 {g : AG} {P : Nat} (h : ShPlan g P) {x : Int} (h0 : 0 ≤ x) (h1 : x < 6) : gK g (P + 5 + x.toNat) = 20 := by
  rcases (show x = 0 ∨ x = 1 ∨ x = 2 ∨ x = 3 ∨ x = 4 ∨ x = 5 by omega) with rfl | rfl | rfl | rfl | rfl | rfl
  · exact (h.1 5 (by decide)).1
  · exact (h.1 6 (by decide)).1
  · exact (h.1 7 (by decide)).1
  · exact (h.1 8 (by decide)).1
  · exact (h.1 9 (by decide)).1
  · exact (h.1 10 (by decide)).1
theorem ShPlan_lv4 {g : AG} {P : Nat} (h : ShPlan g P) {x : Int} (h0 : 0 ≤ x) (h1 : x < 6) : gL g (P + 5 + x.toNat) = 6 := by
  rcases (show x = 0 ∨ x = 1 ∨ x = 2 ∨ x = 3 ∨ x = 4 ∨ x = 5 by omega) with rfl | rfl | rfl | rfl | rfl | rfl
  · exact (h.1 5 (by decide)).2
  · exact (h.1 6 (by decide)).2
  · exact (h.1 7 (by decide)).2
  · exact (h.1 8 (by decide)).2
  · exact (h.1 9 (by decide)).2
  · exact (h.1 10 (by decide)).2
def ShWorks (g : AG) (W P B : Nat) : Prop := gK g W = 8 ∧ gR g W 0 = P ∧ gR g W 1 = B
theorem ShWorks_k0 {g : AG} {W P B : Nat} (h : ShWorks g W P B) : gK g W = 8 := h.1
theorem ShWorks_r0 {g : AG} {W P B : Nat} (h : ShWorks g W P B) : gR g W 0 = P := h.2.1
theorem ShWorks_r1 {g : AG} {W P B : Nat} (h : ShWorks g W P B) : gR g W 1 = B := h.2.2
def ShTrial (g : AG) (T P B0 B W : Nat) : Prop := gK g T = 7 ∧ gR g T 0 = P ∧ gR g T 1 = B0 ∧ gR g T 2 = B ∧ gR g T 3 = W
theorem ShTrial_k0 {g : AG} {T P B0 B W : Nat} (h : ShTrial g T P B0 B W) : gK g T = 7 := h.1
theorem ShTrial_r0 {g : AG} {T P B0 B W : Nat} (h : ShTrial g T P B0 B W) : gR g T 0 = P := h.2.1
theorem ShTrial_r1 {g : AG} {T P B0 B W : Nat} (h : ShTrial g T P B0 B W) : gR g T 1 = B0 := h.2.2.1
theorem ShTrial_r2 {g : AG} {T P B0 B W : Nat} (h : ShTrial g T P B0 B W) : gR g T 2 = B := h.2.2.2.1
theorem ShTrial_r3 {g : AG} {T P B0 B W : Nat} (h : ShTrial g T P B0 B W) : gR g T 3 = W := h.2.2.2.2
def ShPacking (g : AG) (A B : Nat) : Prop := gK g A = 2 ∧ gK g (A + 1) = 20 ∧ gL g (A + 1) = 210 ∧ gR g A 0 = B ∧ gR g A 1 = (A + 1)
theorem ShPacking_k0 {g : AG} {A B : Nat} (h : ShPacking g A B) : gK g A = 2 := h.1
theorem ShPacking_k1 {g : AG} {A B : Nat} (h : ShPacking g A B) : gK g (A + 1) = 20 := h.2.1
theorem ShPacking_l1 {g : AG} {A B : Nat} (h : ShPacking g A B) : gL g (A + 1) = 210 := h.2.2.1
theorem ShPacking_r0 {g : AG} {A B : Nat} (h : ShPacking g A B) : gR g A 0 = B := h.2.2.2.1
theorem ShPacking_r1 {g : AG} {A B : Nat} (h : ShPacking g A B) : gR g A 1 = (A + 1) := h.2.2.2.2
def ShHist (g : AG) (H : Nat) : Prop := gK g H = 1 ∧ gK g (H + 1) = 26 ∧ gL g (H + 1) = 8 ∧ gR g H 0 = (H + 1) ∧ (∀ j : Nat, j < 8 → gR g (H + 1) (j : Int) = H + 2 + 24 * j)
theorem ShHist_k0 {g : AG} {H : Nat} (h : ShHist g H) : gK g H = 1 := h.1
theorem ShHist_k1 {g : AG} {H : Nat} (h : ShHist g H) : gK g (H + 1) = 26 := h.2.1
theorem ShHist_l1 {g : AG} {H : Nat} (h : ShHist g H) : gL g (H + 1) = 8 := h.2.2.1
theorem ShHist_r0 {g : AG} {H : Nat} (h : ShHist g H) : gR g H 0 = (H + 1) := h.2.2.2.1
theorem ShHist_e1_0 {g : AG} {H : Nat} (h : ShHist g H) : gR g (H + 1) 0 = (H + 2) := h.2.2.2.2 0 (by decide)
theorem ShHist_e1_1 {g : AG} {H : Nat} (h : ShHist g H) : gR g (H + 1) 1 = (H + 26) := h.2.2.2.2 1 (by decide)
theorem ShHist_e1_2 {g : AG} {H : Nat} (h : ShHist g H) : gR g (H + 1) 2 = (H + 50) := h.2.2.2.2 2 (by decide)
theorem ShHist_e1_3 {g : AG} {H : Nat} (h : ShHist g H) : gR g (H + 1) 3 = (H + 74) := h.2.2.2.2 3 (by decide)
theorem ShHist_e1_4 {g : AG} {H : Nat} (h : ShHist g H) : gR g (H + 1) 4 = (H + 98) := h.2.2.2.2 4 (by decide)
theorem ShHist_e1_5 {g : AG} {H : Nat} (h : ShHist g H) : gR g (H + 1) 5 = (H + 122) := h.2.2.2.2 5 (by decide)
theorem ShHist_e1_6 {g : AG} {H : Nat} (h : ShHist g H) : gR g (H + 1) 6 = (H + 146) := h.2.2.2.2 6 (by decide)
theorem ShHist_e1_7 {g : AG} {H : Nat} (h : ShHist g H) : gR g (H + 1) 7 = (H + 170) := h.2.2.2.2 7 (by decide)
theorem ShHist_ev1 {g : AG} {H : Nat} (h : ShHist g H) {x : Int} (h0 : 0 ≤ x) (h1 : x < 8) : gR g (H + 1) x = H + 2 + 24 * x.toNat := by
  have h9 := h.2.2.2.2 x.toNat (by omega)
  rw [Int.toNat_of_nonneg h0] at h9
  exact h9
def ShParser (g : AG) (A Z P B : Nat) : Prop := gK g A = 3 ∧ gR g A 0 = Z ∧ gR g A 1 = P ∧ gR g A 2 = B
theorem ShParser_k0 {g : AG} {A Z P B : Nat} (h : ShParser g A Z P B) : gK g A = 3 := h.1
theorem ShParser_r0 {g : AG} {A Z P B : Nat} (h : ShParser g A Z P B) : gR g A 0 = Z := h.2.1
theorem ShParser_r1 {g : AG} {A Z P B : Nat} (h : ShParser g A Z P B) : gR g A 1 = P := h.2.2.1
theorem ShParser_r2 {g : AG} {A Z P B : Nat} (h : ShParser g A Z P B) : gR g A 2 = B := h.2.2.2
def ShText (g : AG) (X : Nat) : Prop := gK g X = 6 ∧ gK g (X + 1) = 21 ∧ gL g (X + 1) = 320 ∧ gR g X 0 = (X + 1)
theorem ShText_k0 {g : AG} {X : Nat} (h : ShText g X) : gK g X = 6 := h.1
theorem ShText_k1 {g : AG} {X : Nat} (h : ShText g X) : gK g (X + 1) = 21 := h.2.1
theorem ShText_l1 {g : AG} {X : Nat} (h : ShText g X) : gL g (X + 1) = 320 := h.2.2.1
theorem ShText_r0 {g : AG} {X : Nat} (h : ShText g X) : gR g X 0 = (X + 1) := h.2.2.2
def ShBytes (g : AG) (Z : Nat) : Prop := gK g Z = 21 ∧ gL g Z = 700
theorem ShBytes_k0 {g : AG} {Z : Nat} (h : ShBytes g Z) : gK g Z = 21 := h.1
theorem ShBytes_l0 {g : AG} {Z : Nat} (h : ShBytes g Z) : gL g Z = 700 := h.2
def ShYard (g : AG) (Y P B W T A H X : Nat) : Prop := gK g Y = 0 ∧ gK g (Y + 1) = 21 ∧ gL g (Y + 1) = 700 ∧ gK g (Y + 296) = 26 ∧ gL g (Y + 296) = 2 ∧ gK g (Y + 345) = 22 ∧ gL g (Y + 345) = 2 ∧ gR g Y 0 = (Y + 1) ∧ gR g Y 2 = (Y + 2) ∧ gR g Y 7 = P ∧ gR g Y 8 = B ∧ gR g Y 9 = W ∧ gR g Y 10 = T ∧ gR g Y 11 = A ∧ gR g Y 12 = H ∧ gR g Y 13 = (Y + 296) ∧ gR g Y 14 = (Y + 345) ∧ gR g Y 15 = X ∧ (∀ j : Nat, j < 2 → gR g (Y + 296) (j : Int) = Y + 297 + 24 * j)
theorem ShYard_k0 {g : AG} {Y P B W T A H X : Nat} (h : ShYard g Y P B W T A H X) : gK g Y = 0 := h.1
theorem ShYard_k1 {g : AG} {Y P B W T A H X : Nat} (h : ShYard g Y P B W T A H X) : gK g (Y + 1) = 21 := h.2.1
theorem ShYard_l1 {g : AG} {Y P B W T A H X : Nat} (h : ShYard g Y P B W T A H X) : gL g (Y + 1) = 700 := h.2.2.1
theorem ShYard_k296 {g : AG} {Y P B W T A H X : Nat} (h : ShYard g Y P B W T A H X) : gK g (Y + 296) = 26 := h.2.2.2.1
theorem ShYard_l296 {g : AG} {Y P B W T A H X : Nat} (h : ShYard g Y P B W T A H X) : gL g (Y + 296) = 2 := h.2.2.2.2.1
theorem ShYard_k345 {g : AG} {Y P B W T A H X : Nat} (h : ShYard g Y P B W T A H X) : gK g (Y + 345) = 22 := h.2.2.2.2.2.1
theorem ShYard_l345 {g : AG} {Y P B W T A H X : Nat} (h : ShYard g Y P B W T A H X) : gL g (Y + 345) = 2 := h.2.2.2.2.2.2.1
theorem ShYard_r0 {g : AG} {Y P B W T A H X : Nat} (h : ShYard g Y P B W T A H X) : gR g Y 0 = (Y + 1) := h.2.2.2.2.2.2.2.1
theorem ShYard_r2 {g : AG} {Y P B W T A H X : Nat} (h : ShYard g Y P B W T A H X) : gR g Y 2 = (Y + 2) := h.2.2.2.2.2.2.2.2.1
theorem ShYard_r7 {g : AG} {Y P B W T A H X : Nat} (h : ShYard g Y P B W T A H X) : gR g Y 7 = P := h.2.2.2.2.2.2.2.2.2.1
theorem ShYard_r8 {g : AG} {Y P B W T A H X : Nat} (h : ShYard g Y P B W T A H X) : gR g Y 8 = B := h.2.2.2.2.2.2.2.2.2.2.1
theorem ShYard_r9 {g : AG} {Y P B W T A H X : Nat} (h : ShYard g Y P B W T A H X) : gR g Y 9 = W := h.2.2.2.2.2.2.2.2.2.2.2.1
theorem ShYard_r10 {g : AG} {Y P B W T A H X : Nat} (h : ShYard g Y P B W T A H X) : gR g Y 10 = T := h.2.2.2.2.2.2.2.2.2.2.2.2.1
theorem ShYard_r11 {g : AG} {Y P B W T A H X : Nat} (h : ShYard g Y P B W T A H X) : gR g Y 11 = A := h.2.2.2.2.2.2.2.2.2.2.2.2.2.1
theorem ShYard_r12 {g : AG} {Y P B W T A H X : Nat} (h : ShYard g Y P B W T A H X) : gR g Y 12 = H := h.2.2.2.2.2.2.2.2.2.2.2.2.2.2.1
theorem ShYard_r13 {g : AG} {Y P B W T A H X : Nat} (h : ShYard g Y P B W T A H X) : gR g Y 13 = (Y + 296) := h.2.2.2.2.2.2.2.2.2.2.2.2.2.2.2.1
theorem ShYard_r14 {g : AG} {Y P B W T A H X : Nat} (h : ShYard g Y P B W T A H X) : gR g Y 14 = (Y + 345) := h.2.2.2.2.2.2.2.2.2.2.2.2.2.2.2.2.1
theorem ShYard_r15 {g : AG} {Y P B W T A H X : Nat} (h : ShYard g Y P B W T A H X) : gR g Y 15 = X := h.2.2.2.2.2.2.2.2.2.2.2.2.2.2.2.2.2.1
theorem ShYard_e296_0 {g : AG} {Y P B W T A H X : Nat} (h : ShYard g Y P B W T A H X) : gR g (Y + 296) 0 = (Y + 297) := h.2.2.2.2.2.2.2.2.2.2.2.2.2.2.2.2.2.2 0 (by decide)
theorem ShYard_e296_1 {g : AG} {Y P B W T A H X : Nat} (h : ShYard g Y P B W T A H X) : gR g (Y + 296) 1 = (Y + 321) := h.2.2.2.2.2.2.2.2.2.2.2.2.2.2.2.2.2.2 1 (by decide)
theorem ShYard_ev296 {g : AG} {Y P B W T A H X : Nat} (h : ShYard g Y P B W T A H X) {x : Int} (h0 : 0 ≤ x) (h1 : x < 2) : gR g (Y + 296) x = Y + 297 + 24 * x.toNat := by
  have h9 := h.2.2.2.2.2.2.2.2.2.2.2.2.2.2.2.2.2.2 x.toNat (by omega)
  rw [Int.toNat_of_nonneg h0] at h9
  exact h9

