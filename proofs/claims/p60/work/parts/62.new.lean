/-! CONSTRUCTORS: what is made -/
def SG (g g' : AG) (c : Nat) : Prop := gK g' c = gK g c ∧ gL g' c = gL g c ∧ gR g' c = gR g c
theorem SG.rfl {g : AG} {c : Nat} : SG g g c := ⟨Eq.refl _, Eq.refl _, Eq.refl _⟩
theorem SG.trans {g g1 g2 : AG} {c : Nat} (h : SG g g1 c) (h' : SG g1 g2 c) : SG g g2 c := ⟨h'.1.trans h.1, h'.2.1.trans h.2.1, h'.2.2.trans h.2.2⟩
theorem ShState_fx {g g' : AG} {B : Nat} (h : ShState g B) (e : ∀ c : Nat, B ≤ c → c < B + 24 → SG g g' c) : ShState g' B := by
  unfold ShState at h ⊢
  obtain ⟨h1, h2⟩ := h
  refine ⟨fun j hj => by rw [(e _ (by omega) (by omega)).1, (e _ (by omega) (by omega)).2.1]; exact h1 j hj, ?_⟩
  rw [(e B (by omega) (by omega)).2.2, (e (B + 2) (by omega) (by omega)).2.2, (e (B + 8) (by omega) (by omega)).2.2, (e (B + 18) (by omega) (by omega)).2.2]
  exact h2
theorem ShPlan_fx {g g' : AG} {B : Nat} (h : ShPlan g B) (e : ∀ c : Nat, B ≤ c → c < B + 11 → SG g g' c) : ShPlan g' B := by
  unfold ShPlan at h ⊢
  obtain ⟨h1, h2⟩ := h
  refine ⟨fun j hj => by rw [(e _ (by omega) (by omega)).1, (e _ (by omega) (by omega)).2.1]; exact h1 j hj, ?_⟩
  rw [(e B (by omega) (by omega)).2.2, (e (B + 4) (by omega) (by omega)).2.2]
  exact h2
theorem ShWorks_fx {g g' : AG} {W P B : Nat} (h : ShWorks g W P B) (e : ∀ c : Nat, W ≤ c → c < W + 1 → SG g g' c) : ShWorks g' W P B := by
  unfold ShWorks at h ⊢
  rw [(e W (by omega) (by omega)).1, (e W (by omega) (by omega)).2.2]
  exact h
theorem ShTrial_fx {g g' : AG} {T P A B W : Nat} (h : ShTrial g T P A B W) (e : ∀ c : Nat, T ≤ c → c < T + 1 → SG g g' c) : ShTrial g' T P A B W := by
  unfold ShTrial at h ⊢
  rw [(e T (by omega) (by omega)).1, (e T (by omega) (by omega)).2.2]
  exact h
theorem ShPacking_fx {g g' : AG} {A B : Nat} (h : ShPacking g A B) (e : ∀ c : Nat, A ≤ c → c < A + 2 → SG g g' c) : ShPacking g' A B := by
  unfold ShPacking at h ⊢
  rw [(e A (by omega) (by omega)).1, (e A (by omega) (by omega)).2.2, (e (A + 1) (by omega) (by omega)).1, (e (A + 1) (by omega) (by omega)).2.1]
  exact h
theorem ShHist_fx {g g' : AG} {H : Nat} (h : ShHist g H) (e : ∀ c : Nat, H ≤ c → c < H + 2 → SG g g' c) : ShHist g' H := by
  unfold ShHist at h ⊢
  rw [(e H (by omega) (by omega)).1, (e H (by omega) (by omega)).2.2, (e (H + 1) (by omega) (by omega)).1, (e (H + 1) (by omega) (by omega)).2.1, (e (H + 1) (by omega) (by omega)).2.2]
  exact h
theorem ShParser_fx {g g' : AG} {A Z P B : Nat} (h : ShParser g A Z P B) (e : ∀ c : Nat, A ≤ c → c < A + 1 → SG g g' c) : ShParser g' A Z P B := by
  unfold ShParser at h ⊢
  rw [(e A (by omega) (by omega)).1, (e A (by omega) (by omega)).2.2]
  exact h
theorem ShText_fx {g g' : AG} {X : Nat} (h : ShText g X) (e : ∀ c : Nat, X ≤ c → c < X + 2 → SG g g' c) : ShText g' X := by
  unfold ShText at h ⊢
  rw [(e X (by omega) (by omega)).1, (e X (by omega) (by omega)).2.2, (e (X + 1) (by omega) (by omega)).1, (e (X + 1) (by omega) (by omega)).2.1]
  exact h
theorem ShBytes_fx {g g' : AG} {Z : Nat} (h : ShBytes g Z) (e : ∀ c : Nat, Z ≤ c → c < Z + 1 → SG g g' c) : ShBytes g' Z := by
  unfold ShBytes at h ⊢
  rw [(e Z (by omega) (by omega)).1, (e Z (by omega) (by omega)).2.1]
  exact h
theorem al_k {g : AG} {kd ln sl : Nat} : gK (am_alloc g kd ln sl) (100 + gN g) = kd ∧ gL (am_alloc g kd ln sl) (100 + gN g) = ln := ⟨if_pos rfl, if_pos rfl⟩
theorem al_s {g : AG} {kd ln sl c : Nat} (h : c ≠ 100 + gN g) : SG g (am_alloc g kd ln sl) c := ⟨if_neg h, if_neg h, if_neg h⟩
theorem az_0 {g : AG} {M : AM} (i : Int) : am_zero g M (100 + gN g) i = 0 := by unfold am_zero; rw [upM_at]
theorem az_s {g : AG} {M : AM} {c : Nat} (h : c ≠ 100 + gN g) : am_zero g M c = M c := by unfold am_zero; rw [upM_na h]
section OK
variable {d mi pc pc' oc idx ci k0 kd n a r sl ln : Nat} {ls st : List AV} {g : AG} {M : AM} {Q : AO → AG → AM → Prop}
theorem ok_newF (hi : am_ins mi pc = some (.new idx)) (ho : am_oc mi = oc) (hc : am_csk oc idx ci = true) (h10 : am_ob ci) (hs : am_inst.getD ci 0 = sl) (ha : 100 + gN g = r) (hp : pc + 3 = pc') (k : ∀ (g1 : AG) (M1 : AM), gN g1 = gN g + 1 → gS g1 = gS g + sl → (gK g1 r = ci ∧ gL g1 r = 0) → (∀ c : Nat, c ≠ r → SG g g1 c) → (∀ i : Int, M1 r i = 0) → (∀ c : Nat, c ≠ r → M1 c = M c) → Ok d mi pc' ls (aR r :: st) g1 M1 Q) : Ok d mi pc ls st g M Q := by
  unfold am_csk at hc
  split at hc
  · next z c z2 e =>
    have hcc : c = ci := of_decide_eq_true hc
    subst hcc; subst hp; subst ha; subst hs
    refine ok_step hi rfl rfl ?_ (k (am_alloc g c 0 (am_inst.getD c 0)) (am_zero g M) rfl rfl al_k (fun x hx => al_s hx) az_0 (fun x hx => az_s hx))
    show (match am_cs (am_oc mi) idx with | some (_, ci, _) => if am_ob ci then some (pc + 3, ls, aR (100 + gN g) :: st, am_alloc g ci 0 (am_inst.getD ci 0), am_zero g M) else none | none => none) = _
    rw [ho, e]
    dsimp only
    rw [if_pos h10]
  · cases hc
theorem ok_newarrF {t : ArrayType} {x : Int} (hi : am_ins mi pc = some (.newarray t)) (ht : am_aat t = kd) (h0 : kd ≠ 0) (hx : x = (ln : Int)) (hl : ln ≤ 100000) (ha : 100 + gN g = r) (hp : pc + 2 = pc') (k : ∀ (g1 : AG) (M1 : AM), gN g1 = gN g + 1 → gS g1 = gS g + ln → (gK g1 r = kd ∧ gL g1 r = ln) → (∀ c : Nat, c ≠ r → SG g g1 c) → (∀ i : Int, M1 r i = 0) → (∀ c : Nat, c ≠ r → M1 c = M c) → Ok d mi pc' ls (aR r :: st) g1 M1 Q) : Ok d mi pc ls (aI x :: st) g M Q := by
  subst hp; subst ha; subst ht; subst hx
  refine ok_step hi rfl rfl ?_ (k (am_alloc g (am_aat t) ln ln) (am_zero g M) rfl rfl al_k (fun x hx => al_s hx) az_0 (fun x hx => az_s hx))
  show (if am_aat t ≠ 0 ∧ (0 : Int) ≤ (ln : Int) ∧ (ln : Int) ≤ 100000 then some (pc + 2, ls, aR (100 + gN g) :: st, am_alloc g (am_aat t) (ln : Int).toNat (ln : Int).toNat, am_zero g M) else none) = _
  rw [if_pos ⟨h0, by omega, by omega⟩, Int.toNat_natCast]
theorem ok_anewF {x : Int} (hi : am_ins mi pc = some (.anewarray idx)) (ho : am_oc mi = oc) (hc : am_csk oc idx ci = true) (hk : am_aar ci = kd) (h0 : kd ≠ 0) (hx : x = (ln : Int)) (hl : ln ≤ 100000) (ha : 100 + gN g = r) (hp : pc + 3 = pc') (k : ∀ (g1 : AG) (M1 : AM), gN g1 = gN g + 1 → gS g1 = gS g + ln → (gK g1 r = kd ∧ gL g1 r = ln) → (∀ c : Nat, c ≠ r → SG g g1 c) → (∀ i : Int, M1 r i = 0) → (∀ c : Nat, c ≠ r → M1 c = M c) → Ok d mi pc' ls (aR r :: st) g1 M1 Q) : Ok d mi pc ls (aI x :: st) g M Q := by
  unfold am_csk at hc
  split at hc
  · next z c z2 e =>
    have hcc : c = ci := of_decide_eq_true hc
    subst hcc; subst hk; subst hp; subst ha; subst hx
    refine ok_step hi rfl rfl ?_ (k (am_alloc g (am_aar c) ln ln) (am_zero g M) rfl rfl al_k (fun x hx => al_s hx) az_0 (fun x hx => az_s hx))
    show (match am_cs (am_oc mi) idx with | some (_, ci, _) => if am_aar ci ≠ 0 ∧ (0 : Int) ≤ (ln : Int) ∧ (ln : Int) ≤ 100000 then some (pc + 3, ls, aR (100 + gN g) :: st, am_alloc g (am_aar ci) (ln : Int).toNat (ln : Int).toNat, am_zero g M) else none | none => none) = _
    rw [ho, e]
    dsimp only
    rw [if_pos ⟨h0, by omega, by omega⟩, Int.toNat_natCast]
  · cases hc
theorem ok_multiF {x y : Int} {w : Nat} (hi : am_ins mi pc = some (.multianewarray idx 2)) (ho : am_oc mi = oc) (hc : am_csk oc idx 25 = true) (hx : x = (n : Int)) (hl : n ≤ 1000) (hy : y = (w : Int)) (hw : w ≤ 1000) (ha : 100 + gN g = r) (hp : pc + 4 = pc') (k : ∀ (g1 : AG) (M1 : AM), gN g1 = gN g + (1 + n) → gS g1 = gS g + (n + n * w) → (gK g1 r = 25 ∧ gL g1 r = n) → (∀ c : Nat, r < c → c ≤ r + n → gK g1 c = 20 ∧ gL g1 c = w) → (∀ j : Nat, j < n → gR g1 r (j : Int) = r + 1 + j) → (∀ c : Nat, c < r → SG g g1 c) → (∀ c : Nat, r ≤ c → c ≤ r + n → ∀ i : Int, M1 c i = 0) → (∀ c : Nat, c < r → M1 c = M c) → Ok d mi pc' ls (aR r :: st) g1 M1 Q) : Ok d mi pc ls (aI y :: aI x :: st) g M Q := by
  unfold am_csk at hc
  split at hc
  · next z c z2 e =>
    have hcc : c = 25 := of_decide_eq_true hc
    subst hcc; subst hp; subst ha; subst hx; subst hy
    refine ok_step hi rfl rfl ?_ (k (am_multi g n w) (am_zeros g M n) rfl rfl ⟨if_pos rfl, if_pos rfl⟩ (fun c c0 c1 => ⟨?_, ?_⟩) (fun j hj => ?_) (fun c hc => ⟨?_, ?_, ?_⟩) (fun c c0 c1 i => ?_) (fun c hc => ?_))
    · show (match am_cs (am_oc mi) idx with | some (_, ci, _) => if ci = 25 ∧ 2 = 2 ∧ (0 : Int) ≤ (n : Int) ∧ (n : Int) ≤ 100000 ∧ (0 : Int) ≤ (w : Int) ∧ (w : Int) ≤ 100000 then some (pc + 4, ls, aR (100 + gN g) :: st, am_multi g (n : Int).toNat (w : Int).toNat, am_zeros g M (n : Int).toNat) else none | none => none) = _
      rw [ho, e]
      dsimp only
      rw [if_pos ⟨rfl, rfl, by omega, by omega, by omega, by omega⟩, Int.toNat_natCast, Int.toNat_natCast]
    · show (if c = 100 + gN g then 25 else if 100 + gN g < c ∧ c ≤ 100 + gN g + n then 20 else gK g c) = 20
      rw [if_neg (by omega), if_pos ⟨c0, c1⟩]
    · show (if c = 100 + gN g then n else if 100 + gN g < c ∧ c ≤ 100 + gN g + n then w else gL g c) = w
      rw [if_neg (by omega), if_pos ⟨c0, c1⟩]
    · show (if 100 + gN g = 100 + gN g then (fun j : Int => if 0 ≤ j ∧ j < n then 100 + gN g + 1 + j.toNat else 0) else _) (j : Int) = _
      rw [if_pos rfl]
      show (if 0 ≤ (j : Int) ∧ (j : Int) < n then 100 + gN g + 1 + (j : Int).toNat else 0) = _
      rw [if_pos (by omega), Int.toNat_natCast]
    · show (if c = 100 + gN g then 25 else if 100 + gN g < c ∧ c ≤ 100 + gN g + n then 20 else gK g c) = _
      rw [if_neg (by omega), if_neg (by omega)]
    · show (if c = 100 + gN g then n else if 100 + gN g < c ∧ c ≤ 100 + gN g + n then w else gL g c) = _
      rw [if_neg (by omega), if_neg (by omega)]
    · show (if c = 100 + gN g then (fun j : Int => if 0 ≤ j ∧ j < n then 100 + gN g + 1 + j.toNat else 0) else if 100 + gN g < c ∧ c ≤ 100 + gN g + n then (fun _ => 0) else gR g c) = _
      rw [if_neg (by omega), if_neg (by omega)]
    · show (if 100 + gN g ≤ c ∧ c ≤ 100 + gN g + n then (fun _ => 0) else M c) i = 0
      rw [if_pos ⟨c0, c1⟩]
    · show (if 100 + gN g ≤ c ∧ c ≤ 100 + gN g + n then (fun _ => 0) else M c) = _
      rw [if_neg (by omega)]
  · cases hc
theorem up2R_at {R : Nat → Int → Nat} {a v : Nat} {k : Int} : up2R R a k v a k = v := by unfold up2R upR; rw [if_pos rfl]; exact if_pos rfl
theorem up2R_nj {R : Nat → Int → Nat} {a v : Nat} {k j : Int} (h : j ≠ k) : up2R R a k v a j = R a j := by unfold up2R upR; rw [if_pos rfl]; exact if_neg h
theorem up2R_na {R : Nat → Int → Nat} {a b v : Nat} {k : Int} (h : b ≠ a) : up2R R a k v b = R b := by unfold up2R upR; rw [if_neg h]
theorem ok_putrF {v : Nat} (hi : am_ins mi pc = some (.putfield idx)) (ho : am_oc mi = oc) (hf : am_pfr mi oc idx ci k0 = true) (hk : gK g a = ci) (hp : pc + 3 = pc') (k : ∀ g1 : AG, gN g1 = gN g → gS g1 = gS g → gR g1 a k0 = v → (gK g1 = gK g ∧ gL g1 = gL g) → (∀ j : Int, j ≠ k0 → gR g1 a j = gR g a j) → (∀ c : Nat, c ≠ a → SG g g1 c) → Ok d mi pc' ls st g1 M Q) : Ok d mi pc ls (aR v :: aR a :: st) g M Q :=
  ok_putfr hi ho hf hk hp (k _ rfl rfl up2R_at ⟨rfl, rfl⟩ (fun j hj => up2R_nj hj) (fun c hc => ⟨rfl, rfl, up2R_na hc⟩))
theorem ok_aastF {v : Nat} {x : Int} (hi : am_ins mi pc = some .aastore) (hk : gK g a = 26 ∧ gK g v = 5 ∨ gK g a = 25 ∧ gK g v = 20 ∨ gK g a = 23 ∧ gK g v = 16 ∨ gK g a = 24 ∧ gK g v = 15) (hx : 0 ≤ x ∧ x < (gL g a : Int)) (hp : pc + 1 = pc') (k : ∀ g1 : AG, gN g1 = gN g → gS g1 = gS g → gR g1 a x = v → (gK g1 = gK g ∧ gL g1 = gL g) → (∀ j : Int, j ≠ x → gR g1 a j = gR g a j) → (∀ c : Nat, c ≠ a → SG g g1 c) → Ok d mi pc' ls st g1 M Q) : Ok d mi pc ls (aR v :: aI x :: aR a :: st) g M Q :=
  ok_aast hi hk hx hp (k _ rfl rfl up2R_at ⟨rfl, rfl⟩ (fun j hj => up2R_nj hj) (fun c hc => ⟨rfl, rfl, up2R_na hc⟩))
end OK
