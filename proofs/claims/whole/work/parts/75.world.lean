/-! THE LAW'S WORLD: rows for longs, the graph at the law's loop, what the two sides' memories stand for -/
section OK
variable {d mi pc pc' : Nat} {ls st : List AV} {g : AG} {M : AM} {Q : AO → AG → AM → Prop}
theorem ok_lconst {n : Fin 2} {v : Int} (hi : am_ins mi pc = some (.lconst n)) (hv : ((n : Nat) : Int) = v) (hp : pc + 1 = pc') (k : Ok d mi pc' ls (aL v :: st) g M Q) : Ok d mi pc ls st g M Q := ok_step hi rfl rfl (by subst hp; subst hv; rfl) k
theorem ok_lcmp {x y v : Int} (hi : am_ins mi pc = some .lcmp) (hv : (if wl x < wl y then -1 else if wl x = wl y then 0 else 1) = v) (hp : pc + 1 = pc') (k : Ok d mi pc' ls (aI v :: st) g M Q) : Ok d mi pc ls (aL y :: aL x :: st) g M Q := ok_step hi rfl rfl (by subst hp; subst hv; rfl) k
theorem ok_lcmp0 {x : Int} (hi : am_ins mi pc = some .lcmp) (hp : pc + 1 = pc') (k : Ok d mi pc' ls (aI 0 :: st) g M Q) : Ok d mi pc ls (aL x :: aL x :: st) g M Q := ok_lcmp hi (by rw [if_neg (Int.lt_irrefl _), if_pos rfl]) hp k
end OK
/-- a run is one run: what holds of it for each z holds of it for all -/
theorem am_one {f f' d d' mi pc : Nat} {ls st : List AV} {g : AG} {M : AM} {r r' : AO × AG × AM} (h : am_exec f d mi pc ls st g M = some r) (h' : am_exec f' d' mi pc ls st g M = some r') : r = r' := by
  have e1 := am_up _ _ _ _ _ _ _ _ _ h (f + f') (d + d') (by omega) (by omega)
  have e2 := am_up _ _ _ _ _ _ _ _ _ h' (f + f') (d + d') (by omega) (by omega)
  rw [e1] at e2
  exact Option.some.inj e2
theorem Ok.all {ζ : Type} {d mi pc : Nat} {ls st : List AV} {g : AG} {M : AM} {R : ζ → Prop} {Q : ζ → AO → AG → AM → Prop} (z : ζ) (hz : R z) (h : ∀ z, R z → Ok d mi pc ls st g M (Q z)) : Ok d mi pc ls st g M (fun o g' M' => ∀ z, R z → Q z o g' M') := by
  obtain ⟨f, o, g1, M1, e, q⟩ := h z hz
  refine ⟨f, o, g1, M1, e, fun y hy => ?_⟩
  obtain ⟨f2, o2, g2, M2, e2, q2⟩ := h y hy
  have e3 := am_one e e2
  cases e3
  exact q2
/-! shapes depend on their own cells alone -/
def GA (N : Nat) (g g' : AG) : Prop := ∀ a : Nat, a < N → gK g' a = gK g a ∧ gL g' a = gL g a ∧ gR g' a = gR g a
theorem ShState_fr {g g' : AG} {B N : Nat} (h : ShState g B) (e : GA N g g') (hN : B + 24 ≤ N) : ShState g' B := by
  unfold ShState at h ⊢
  obtain ⟨h1, h2⟩ := h
  refine ⟨fun j hj => by rw [(e _ (by omega)).1, (e _ (by omega)).2.1]; exact h1 j hj, ?_⟩
  rw [(e B (by omega)).2.2, (e (B + 2) (by omega)).2.2, (e (B + 8) (by omega)).2.2, (e (B + 18) (by omega)).2.2]
  exact h2
theorem ShPlan_fr {g g' : AG} {B N : Nat} (h : ShPlan g B) (e : GA N g g') (hN : B + 11 ≤ N) : ShPlan g' B := by
  unfold ShPlan at h ⊢
  obtain ⟨h1, h2⟩ := h
  refine ⟨fun j hj => by rw [(e _ (by omega)).1, (e _ (by omega)).2.1]; exact h1 j hj, ?_⟩
  rw [(e B (by omega)).2.2, (e (B + 4) (by omega)).2.2]
  exact h2
theorem ShWorks_fr {g g' : AG} {W P B N : Nat} (h : ShWorks g W P B) (e : GA N g g') (hN : W < N) : ShWorks g' W P B := by
  unfold ShWorks at h ⊢
  rw [(e W hN).1, (e W hN).2.2]
  exact h
theorem ShTrial_fr {g g' : AG} {T P A B W N : Nat} (h : ShTrial g T P A B W) (e : GA N g g') (hN : T < N) : ShTrial g' T P A B W := by
  unfold ShTrial at h ⊢
  rw [(e T hN).1, (e T hN).2.2]
  exact h
theorem ShPacking_fr {g g' : AG} {A B N : Nat} (h : ShPacking g A B) (e : GA N g g') (hN : A + 1 < N) : ShPacking g' A B := by
  unfold ShPacking at h ⊢
  rw [(e A (by omega)).1, (e A (by omega)).2.2, (e (A + 1) hN).1, (e (A + 1) hN).2.1]
  exact h
theorem ShHist_fr {g g' : AG} {H N : Nat} (h : ShHist g H) (e : GA N g g') (hN : H + 1 < N) : ShHist g' H := by
  unfold ShHist at h ⊢
  rw [(e H (by omega)).1, (e H (by omega)).2.2, (e (H + 1) hN).1, (e (H + 1) hN).2.1, (e (H + 1) hN).2.2]
  exact h
theorem ShParser_fr {g g' : AG} {A Z P B N : Nat} (h : ShParser g A Z P B) (e : GA N g g') (hN : A < N) : ShParser g' A Z P B := by
  unfold ShParser at h ⊢
  rw [(e A hN).1, (e A hN).2.2]
  exact h
theorem ShText_fr {g g' : AG} {X N : Nat} (h : ShText g X) (e : GA N g g') (hN : X + 1 < N) : ShText g' X := by
  unfold ShText at h ⊢
  rw [(e X (by omega)).1, (e X (by omega)).2.2, (e (X + 1) hN).1, (e (X + 1) hN).2.1]
  exact h
theorem ShBytes_fr {g g' : AG} {Z N : Nat} (h : ShBytes g Z) (e : GA N g g') (hN : Z < N) : ShBytes g' Z := by
  unfold ShBytes at h ⊢
  rw [(e Z hN).1, (e Z hN).2.1]
  exact h
theorem ShModel_fr {g g' : AG} {O N : Nat} (h : ShModel g O) (e : GA N g g') (hN : O + 16 ≤ N) : ShModel g' O := by
  have e0 : gR g' O = gR g O := (e O (by omega)).2.2
  have h2 := h.2
  rw [← e0] at h2
  exact ⟨fun j hj => ⟨(e _ (by omega)).1.trans (h.1 j hj).1, (e _ (by omega)).2.1.trans (h.1 j hj).2⟩, h2⟩
theorem ShYard_fr {g g' : AG} {Y P B W T A H X N : Nat} (h : ShYard g Y P B W T A H X) (e : GA N g g') (hN : Y + 346 ≤ N) : ShYard g' Y P B W T A H X := by
  unfold ShYard at h ⊢
  rw [(e Y (by omega)).1, (e Y (by omega)).2.2, (e (Y + 1) (by omega)).1, (e (Y + 1) (by omega)).2.1, (e (Y + 296) (by omega)).1, (e (Y + 296) (by omega)).2.1, (e (Y + 296) (by omega)).2.2, (e (Y + 345) (by omega)).1, (e (Y + 345) (by omega)).2.1]
  exact h
theorem ShStr_fr {g g' : AG} {a n N : Nat} (h : ShStr g a n) (e : GA N g g') (hN : a + 1 < N) : ShStr g' a n := by
  unfold ShStr at h ⊢
  rw [(e a (by omega)).1, (e a (by omega)).2.2, (e (a + 1) hN).1, (e (a + 1) hN).2.1]
  exact h
def ShScr (g : AG) (a : Nat) (L : Nat) : Prop := gK g a = 28 ∧ gL g a = L
def ShOut (g : AG) (a : Nat) : Prop := gK g a = 23 ∧ gL g a = 1
def ShOutD (g : AG) (a : Nat) : Prop := gK g a = 24 ∧ gL g a = 1
theorem ShScr_k0 {g : AG} {a L : Nat} (h : ShScr g a L) : gK g a = 28 := h.1
theorem ShScr_l0 {g : AG} {a L : Nat} (h : ShScr g a L) : gL g a = L := h.2
theorem ShOut_k0 {g : AG} {a : Nat} (h : ShOut g a) : gK g a = 23 := h.1
theorem ShOut_l0 {g : AG} {a : Nat} (h : ShOut g a) : gL g a = 1 := h.2
theorem ShOutD_k0 {g : AG} {a : Nat} (h : ShOutD g a) : gK g a = 24 := h.1
theorem ShOutD_l0 {g : AG} {a : Nat} (h : ShOutD g a) : gL g a = 1 := h.2
def slen (j : Nat) : Nat := (am_txt.getD j []).length
def HG (L : Nat) (g : AG) : Prop := ShYard g 100 138 149 173 174 200 202 446 ∧ ShParser g 102 101 103 114 ∧ ShBytes g 101 ∧ ShPlan g 103 ∧ ShState g 114 ∧ ShPlan g 138 ∧ ShState g 149 ∧ ShWorks g 173 138 149 ∧ ShTrial g 174 138 149 175 199 ∧ ShState g 175 ∧ ShWorks g 199 138 175 ∧ ShPacking g 200 149 ∧ ShHist g 202 ∧ (∀ i : Nat, i < 8 → ShState g (204 + 24 * i)) ∧ (∀ i : Nat, i < 2 → ShState g (397 + 24 * i)) ∧ ShText g 446 ∧ ShModel g 448 ∧ ShScr g 1 L ∧ ShOut g 464 ∧ ShOutD g 465 ∧ ∀ j : Nat, j < 15 → ShStr g (10 + 2 * j) (slen j)
theorem HG_fr {L : Nat} {g g' : AG} (h : HG L g) (e : GA 466 g g') : HG L g' := by
  obtain ⟨h1, h2, h3, h4, h5, h6, h7, h8, h9, h10, h11, h12, h13, h14, h15, h16, h17, h18, h19, h20, h21⟩ := h
  refine ⟨ShYard_fr h1 e (by decide), ShParser_fr h2 e (by decide), ShBytes_fr h3 e (by decide), ShPlan_fr h4 e (by decide), ShState_fr h5 e (by decide), ShPlan_fr h6 e (by decide), ShState_fr h7 e (by decide), ShWorks_fr h8 e (by decide), ShTrial_fr h9 e (by decide), ShState_fr h10 e (by decide), ShWorks_fr h11 e (by decide), ShPacking_fr h12 e (by decide), ShHist_fr h13 e (by decide), fun i hi => ShState_fr (h14 i hi) e (by omega), fun i hi => ShState_fr (h15 i hi) e (by omega), ShText_fr h16 e (by decide), ShModel_fr h17 e (by decide), ?_, ?_, ?_, fun j hj => ShStr_fr (h21 j hj) e (by omega)⟩
  · unfold ShScr at h18 ⊢; rw [(e 1 (by decide)).1, (e 1 (by decide)).2.1]; exact h18
  · unfold ShOut at h19 ⊢; rw [(e 464 (by decide)).1, (e 464 (by decide)).2.1]; exact h19
  · unfold ShOutD at h20 ⊢; rw [(e 465 (by decide)).1, (e 465 (by decide)).2.1]; exact h20
/-- n exceptions were made -/
def HD (L n : Nat) (g : AG) : Prop := (gN g = 366 + n ∧ gS g ≤ 45000 + 6 * n) ∧ HG L g
theorem HD.al {L n : Nat} {g : AG} (h : HD L n g) : HD L (n + 1) (am_alloc g 30 0 6) := by
  obtain ⟨⟨h1, h2⟩, h3⟩ := h
  refine ⟨⟨by show gN g + 1 = _; omega, by show gS g + 6 ≤ _; omega⟩, HG_fr h3 (fun a ha => ?_)⟩
  have hne : a ≠ 100 + gN g := by omega
  refine ⟨?_, ?_, ?_⟩
  · show upN (gK g) (100 + gN g) 30 a = gK g a
    unfold upN; rw [if_neg hne]
  · show upN (gL g) (100 + gN g) 0 a = gL g a
    unfold upN; rw [if_neg hne]
  · show upR (gR g) (100 + gN g) (fun _ => 0) a = gR g a
    unfold upR; rw [if_neg hne]
theorem ok_al {L n d mi pc : Nat} {ls st : List AV} {g : AG} {M : AM} {Q : AO → AG → AM → Prop} (hD : HD L n g) (k : ∀ g1, HD L (n + 1) g1 → Ok d mi pc ls st g1 M Q) : Ok d mi pc ls st (am_alloc g 30 0 6) M Q := k _ hD.al
theorem HD_y {L n : Nat} {g : AG} (h : HD L n g) : ShYard g 100 138 149 173 174 200 202 446 := h.2.1
theorem HD_j {L n : Nat} {g : AG} (h : HD L n g) : ShParser g 102 101 103 114 := h.2.2.1
theorem HD_z {L n : Nat} {g : AG} (h : HD L n g) : ShBytes g 101 := h.2.2.2.1
theorem HD_pp {L n : Nat} {g : AG} (h : HD L n g) : ShPlan g 103 := h.2.2.2.2.1
theorem HD_pb {L n : Nat} {g : AG} (h : HD L n g) : ShState g 114 := h.2.2.2.2.2.1
theorem HD_p {L n : Nat} {g : AG} (h : HD L n g) : ShPlan g 138 := h.2.2.2.2.2.2.1
theorem HD_b {L n : Nat} {g : AG} (h : HD L n g) : ShState g 149 := h.2.2.2.2.2.2.2.1
theorem HD_w {L n : Nat} {g : AG} (h : HD L n g) : ShWorks g 173 138 149 := h.2.2.2.2.2.2.2.2.1
theorem HD_t {L n : Nat} {g : AG} (h : HD L n g) : ShTrial g 174 138 149 175 199 := h.2.2.2.2.2.2.2.2.2.1
theorem HD_tb {L n : Nat} {g : AG} (h : HD L n g) : ShState g 175 := h.2.2.2.2.2.2.2.2.2.2.1
theorem HD_tw {L n : Nat} {g : AG} (h : HD L n g) : ShWorks g 199 138 175 := h.2.2.2.2.2.2.2.2.2.2.2.1
theorem HD_k {L n : Nat} {g : AG} (h : HD L n g) : ShPacking g 200 149 := h.2.2.2.2.2.2.2.2.2.2.2.2.1
theorem HD_h {L n : Nat} {g : AG} (h : HD L n g) : ShHist g 202 := h.2.2.2.2.2.2.2.2.2.2.2.2.2.1
theorem HD_hi {L n : Nat} {g : AG} (h : HD L n g) : ∀ i : Nat, i < 8 → ShState g (204 + 24 * i) := h.2.2.2.2.2.2.2.2.2.2.2.2.2.2.1
theorem HD_sl {L n : Nat} {g : AG} (h : HD L n g) : ∀ i : Nat, i < 2 → ShState g (397 + 24 * i) := h.2.2.2.2.2.2.2.2.2.2.2.2.2.2.2.1
theorem HD_x {L n : Nat} {g : AG} (h : HD L n g) : ShText g 446 := h.2.2.2.2.2.2.2.2.2.2.2.2.2.2.2.2.1
theorem HD_o {L n : Nat} {g : AG} (h : HD L n g) : ShModel g 448 := h.2.2.2.2.2.2.2.2.2.2.2.2.2.2.2.2.2.1
theorem HD_s {L n : Nat} {g : AG} (h : HD L n g) : ShScr g 1 L := h.2.2.2.2.2.2.2.2.2.2.2.2.2.2.2.2.2.2.1
theorem HD_u {L n : Nat} {g : AG} (h : HD L n g) : ShOut g 464 := h.2.2.2.2.2.2.2.2.2.2.2.2.2.2.2.2.2.2.2.1
theorem HD_ud {L n : Nat} {g : AG} (h : HD L n g) : ShOutD g 465 := h.2.2.2.2.2.2.2.2.2.2.2.2.2.2.2.2.2.2.2.2.1
theorem HD_w15 {L n : Nat} {g : AG} (h : HD L n g) : ∀ j : Nat, j < 15 → ShStr g (10 + 2 * j) (slen j) := h.2.2.2.2.2.2.2.2.2.2.2.2.2.2.2.2.2.2.2.2.2
