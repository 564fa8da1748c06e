/-! WHAT A YARD IS: the state's cells and the reference's row of numbers; loops (by program, wip/gen/gen_rep.py) -/
/-- a number that grows by one, a value that is reckoned -/
def itv {σ : Type} (f : Int → σ → σ) (a0 : σ) (lo : Int) : Nat → σ
  | 0 => a0
  | n + 1 => f (lo + n) (itv f a0 lo n)
/-- the same with a way out from within -/
def itx {σ ρ : Type} (f : Int → σ → σ ⊕ ρ) (a0 : σ) (lo : Int) : Nat → σ ⊕ ρ
  | 0 => .inl a0
  | n + 1 => match itx f a0 lo n with
    | .inl a => f (lo + n) a
    | .inr r => .inr r
def itr {σ ρ : Type} (x : σ ⊕ ρ) (k : σ → ρ) : ρ := match x with
  | .inl a => k a
  | .inr r => r
theorem itx_out {σ ρ : Type} {f : Int → σ → σ ⊕ ρ} {a0 : σ} {lo : Int} {r : ρ} {k : Nat} (h : itx f a0 lo k = .inr r) : ∀ n, k ≤ n → itx f a0 lo n = .inr r := by
  intro n hn
  induction n with
  | zero => rw [show k = 0 by omega] at h; exact h
  | succ n ih =>
    by_cases hk : k = n + 1
    · rw [← hk]; exact h
    · rw [itx, ih (by omega)]
theorem ok_for {σ : Type} {d mi h : Nat} {g : AG} {Q : AO → AG → AM → Prop} {lo : Int} {n : Nat} {f : Int → σ → σ} {a0 : σ} (L : Int → σ → List AV → AM → Prop)
    (hs : ∀ (i : Int) (a : σ) (ls : List AV) (M : AM), lo ≤ i → i < lo + n → L i a ls M → (∀ ls' M', L (i + 1) (f i a) ls' M' → Ok d mi h ls' [] g M' Q) → Ok d mi h ls [] g M Q)
    (he : ∀ (i : Int) (a : σ) (ls : List AV) (M : AM), i = lo + n → itv f a0 lo n = a → L i a ls M → Ok d mi h ls [] g M Q) : ∀ ls M, L lo a0 ls M → Ok d mi h ls [] g M Q := by
  have key : ∀ k : Nat, k ≤ n → ∀ ls M, L (lo + (n - k : Nat)) (itv f a0 lo (n - k)) ls M → Ok d mi h ls [] g M Q := by
    intro k
    induction k with
    | zero => exact fun _ ls M h2 => he _ _ ls M rfl rfl h2
    | succ k ih =>
      intro hk ls M h2
      refine hs _ _ ls M (by omega) (by omega) h2 (fun ls' M' h4 => ?_)
      have e : n - k = (n - (k + 1)) + 1 := by omega
      have e2 : itv f a0 lo (n - k) = f (lo + (n - (k + 1) : Nat)) (itv f a0 lo (n - (k + 1))) := by rw [e]; rfl
      have e3 : lo + ((n - (k + 1) : Nat) : Int) + 1 = lo + (n - k : Nat) := by omega
      rw [e3, ← e2] at h4
      exact ih (by omega) ls' M' h4
  intro ls M h
  refine key n (Nat.le_refl _) ls M ?_
  rw [Nat.sub_self, show lo + ((0 : Nat) : Int) = lo by omega]
  exact h
theorem ok_forx {σ ρ : Type} {d mi h : Nat} {g : AG} {Q : AO → AG → AM → Prop} {lo : Int} {n : Nat} {f : Int → σ → σ ⊕ ρ} {a0 : σ} (L : Int → σ → List AV → AM → Prop)
    (hs : ∀ (i : Int) (a : σ) (ls : List AV) (M : AM), lo ≤ i → i < lo + n → L i a ls M → (∀ r, f i a = .inr r → itx f a0 lo n = .inr r) → (∀ a' ls' M', f i a = .inl a' → L (i + 1) a' ls' M' → Ok d mi h ls' [] g M' Q) → Ok d mi h ls [] g M Q)
    (he : ∀ (i : Int) (a : σ) (ls : List AV) (M : AM), i = lo + n → itx f a0 lo n = .inl a → L i a ls M → Ok d mi h ls [] g M Q) : ∀ ls M, L lo a0 ls M → Ok d mi h ls [] g M Q := by
  have key : ∀ k : Nat, k ≤ n → ∀ a ls M, itx f a0 lo (n - k) = .inl a → L (lo + (n - k : Nat)) a ls M → Ok d mi h ls [] g M Q := by
    intro k
    induction k with
    | zero => exact fun _ a ls M h1 h2 => he _ a ls M rfl h1 h2
    | succ k ih =>
      intro hk a ls M h1 h2
      have e : n - k = (n - (k + 1)) + 1 := by omega
      have e2 : itx f a0 lo (n - k) = f (lo + (n - (k + 1) : Nat)) a := by rw [e, itx, h1]
      have e3 : lo + ((n - (k + 1) : Nat) : Int) + 1 = lo + (n - k : Nat) := by omega
      refine hs _ a ls M (by omega) (by omega) h2 (fun r hr => itx_out (e2.trans hr) n (by omega)) (fun a' ls' M' h4 h5 => ?_)
      rw [e3] at h5
      exact ih (by omega) a' ls' M' (e2.trans h4) h5
  intro ls M h
  refine key n (Nat.le_refl _) a0 ls M (by rw [Nat.sub_self]; rfl) ?_
  rw [Nat.sub_self, show lo + ((0 : Nat) : Int) = lo by omega]
  exact h
/-- a loop of its own measure -/
theorem ok_while {σ : Type} {d mi h : Nat} {g : AG} {Q : AO → AG → AM → Prop} (L : σ → List AV → AM → Prop) (μ : σ → Nat)
    (hs : ∀ (a : σ) (ls : List AV) (M : AM), L a ls M → (∀ a' ls' M', μ a' < μ a → L a' ls' M' → Ok d mi h ls' [] g M' Q) → Ok d mi h ls [] g M Q) : ∀ a ls M, L a ls M → Ok d mi h ls [] g M Q := by
  have key : ∀ n : Nat, ∀ a ls M, μ a < n → L a ls M → Ok d mi h ls [] g M Q := by
    intro n
    induction n with
    | zero => intro a ls M h; omega
    | succ n ih => exact fun a ls M h1 h2 => hs a ls M h2 (fun a' ls' M' h3 h4 => ih a' ls' M' (by omega) h4)
  exact fun a ls M h => key (μ a + 1) a ls M (by omega) h
theorem itv_congr {σ τ : Type} {f : Int → σ → σ} {f' : Int → τ → τ} {a0 : σ} {b0 : τ} {lo : Int} (R : Int → σ → τ → Prop) (h0 : R lo a0 b0) (n : Nat) (hs : ∀ i a b, lo ≤ i → i < lo + n → R i a b → R (i + 1) (f i a) (f' i b)) : R (lo + n) (itv f a0 lo n) (itv f' b0 lo n) := by
  have key : ∀ k : Nat, k ≤ n → R (lo + k) (itv f a0 lo k) (itv f' b0 lo k) := by
    intro k
    induction k with
    | zero => intro _; rw [show lo + ((0 : Nat) : Int) = lo by omega]; exact h0
    | succ k ih =>
      intro hk
      have := hs _ _ _ (by omega) (by omega) (ih (by omega))
      rw [show lo + (k : Int) + 1 = lo + ((k + 1 : Nat) : Int) by omega] at this
      exact this
  exact key n (Nat.le_refl _)
theorem itv_inv {σ : Type} {f : Int → σ → σ} {a0 : σ} {lo : Int} (R : Int → σ → Prop) (h0 : R lo a0) (n : Nat) (hs : ∀ i a, lo ≤ i → i < lo + n → R i a → R (i + 1) (f i a)) : R (lo + n) (itv f a0 lo n) :=
  itv_congr (f' := f) (b0 := a0) (fun i a _ => R i a) h0 n (fun i a _ h1 h2 h3 => hs i a h1 h2 h3)
theorem itv_eq {σ : Type} {f f' : Int → σ → σ} {a0 : σ} {lo : Int} (R : Int → σ → Prop) (h0 : R lo a0) (n : Nat) (hs : ∀ i a, lo ≤ i → i < lo + n → R i a → f i a = f' i a ∧ R (i + 1) (f i a)) : itv f a0 lo n = itv f' a0 lo n :=
  (itv_congr (f := f) (f' := f') (b0 := a0) (fun i a b => a = b ∧ R i a) ⟨rfl, h0⟩ n (fun i a b h1 h2 h3 => by obtain ⟨rfl, h4⟩ := h3; exact ⟨(hs i a h1 h2 h4).1, (hs i a h1 h2 h4).2⟩)).1
/-! reading behind writing -/
theorem up2_rd {M : AM} {a b : Nat} {x y v : Int} : up2 M a x v b y = if b = a ∧ y = x then v else M b y := by
  unfold up2 upM upI
  by_cases h : b = a
  · subst h
    simp
  · simp [h]
theorem rd_if {M : AM} {a : Nat} {x y v w : Int} (k : M a y = w) : up2 M a x v a y = if y = x then v else w := by
  rw [up2_rd, k]
  simp
theorem upI_rd {s : Int → Int} {k v j : Int} : upI s k v j = if j = k then v else s j := rfl
theorem upI_eq {s : Int → Int} {k v : Int} : upI s k v k = v := if_pos rfl
theorem upI_ne {s : Int → Int} {k v j : Int} (h : j ≠ k) : upI s k v j = s j := if_neg h
theorem ite_cc {c1 c2 : Prop} [Decidable c1] [Decidable c2] {v a b : Int} (h : c1 ↔ c2) (e : a = b) : (if c1 then v else a) = (if c2 then v else b) := by
  by_cases h1 : c1
  · rw [if_pos h1, if_pos (h.mp h1)]
  · rw [if_neg h1, if_neg (fun h2 => h1 (h.mpr h2)), e]
theorem rw2 {M : AM} {s : Int → Int} {a b : Nat} {x y v k j : Int} (hc : (b = a ∧ y = x) ↔ j = k) (e : M b y = s j) : up2 M a x v b y = upI s k v j := by
  rw [up2_rd]
  exact ite_cc hc e
def Wr (B n : Nat) (M M' : AM) : Prop := ∀ a, (a < B ∨ B + n ≤ a) → M' a = M a
theorem Wr.rfl {B n : Nat} {M : AM} : Wr B n M M := fun _ _ => Eq.refl _
theorem Wr.up {B n : Nat} {M M' : AM} (h : Wr B n M M') {a : Nat} (ha : B ≤ a ∧ a < B + n) {x v : Int} : Wr B n M (up2 M' a x v) := fun b hb => by
  rw [up2_na (by omega)]
  exact h b hb
theorem Wr.upm {B n : Nat} {M M' : AM} (h : Wr B n M M') {a : Nat} (ha : B ≤ a ∧ a < B + n) {f : Int → Int} : Wr B n M (upM M' a f) := fun b hb => by
  rw [upM_na (by omega)]
  exact h b hb
theorem Wr.trans {B n : Nat} {M M' M'' : AM} (h : Wr B n M M') (h' : Wr B n M' M'') : Wr B n M M'' := fun b hb => (h' b hb).trans (h b hb)
theorem Wr.wide {B n B' n' : Nat} {M M' : AM} (h : Wr B n M M') (h1 : B' ≤ B) (h2 : B + n ≤ B' + n') : Wr B' n' M M' := fun b hb => h b (by omega)
theorem up2_fold {M : AM} {a : Nat} {f : Int → Int} {k v : Int} : up2 (upM M a f) a k v = upM M a (upI f k v) := by
  funext b
  unfold up2 upM
  by_cases h : b = a
  · simp [h]
  · simp [h]
theorem up2_upM {M : AM} {a : Nat} {k v : Int} : up2 M a k v = upM M a (upI (M a) k v) := rfl
theorem upM_upM {M : AM} {a : Nat} {f h : Int → Int} : upM (upM M a f) a h = upM M a h := by
  funext b
  unfold upM
  by_cases h : b = a
  · simp [h]
  · simp [h]
theorem upM_self {M : AM} {a : Nat} : upM M a (M a) = M := by
  funext b
  unfold upM
  by_cases h : b = a
  · simp [h]
  · simp [h]
/-! the state's cells stand for a row s, the plan's for a row q -/
def RepS (M : AM) (B : Nat) (s : Int → Int) : Prop := M B 0 = s 0 ∧ M B 2 = s 3 ∧ M B 4 = s 4 ∧ M B 7 = s 5 ∧ (∀ i : Int, 0 ≤ i → i < 2 → M (B + 1) i = s (1 + i)) ∧ (∀ i : Int, 0 ≤ i → i < 8 → M (B + 23) i = s (6 + i)) ∧ (∀ i : Int, 0 ≤ i → i ≤ 200 → M (B + 17) i = s (542 + i)) ∧
  (∀ w : Nat, w < 5 → ∀ i : Int, 0 ≤ i → i < s 3 → M (B + 3 + w) i = s (14 + 80 * w + i)) ∧ (∀ w : Nat, w < 8 → ∀ i : Int, 0 ≤ i → i < s 4 → M (B + 9 + w) i = s (414 + 8 * i + w)) ∧ (∀ w : Nat, w < 4 → ∀ i : Int, 0 ≤ i → i < s 5 → M (B + 19 + w) i = s (743 + 4 * i + w))
def RepP (M : AM) (P : Nat) (q : Int → Int) : Prop := M P 0 = q 0 ∧ M P 3 = q 1 ∧ (∀ i : Int, 0 ≤ i → i < q 0 → M (P + 1) i = q (2 + i)) ∧ (∀ i : Int, 0 ≤ i → i < q 0 → M (P + 2) i = q (6 + i)) ∧ (∀ i : Int, 0 ≤ i → i < q 1 → M (P + 3) i = q (10 + i)) ∧ (∀ w : Nat, w < 6 → (w : Int) < q 1 → ∀ i : Int, 0 ≤ i → i < q (10 + w) → M (P + 5 + w) i = q (16 + (6 * w + i)))
def ValQ (q : Int → Int) : Prop := (0 ≤ q 0 ∧ q 0 ≤ 4) ∧ (0 ≤ q 1 ∧ q 1 ≤ 6) ∧ (∀ i : Int, 0 ≤ i → i < q 0 → (1 ≤ q (2 + i) ∧ q (2 + i) ≤ 200) ∧ (1 ≤ q (6 + i) ∧ q (6 + i) ≤ 99)) ∧ (∀ p : Int, 0 ≤ p → p < q 1 → (1 ≤ q (10 + p) ∧ q (10 + p) ≤ 6) ∧ ∀ i : Int, 0 ≤ i → i < q (10 + p) → 1 ≤ q (16 + (6 * p + i)) ∧ q (16 + (6 * p + i)) ≤ 200)
def RodV (q s : Int → Int) (i : Int) : Prop := (0 ≤ s (14 + i) ∧ s (14 + i) < q 0) ∧ (0 ≤ s (94 + i) ∧ s (94 + i) ≤ 200) ∧ (0 ≤ s (174 + i) ∧ s (174 + i) ≤ 2) ∧ (0 ≤ s (334 + i) ∧ s (334 + i) ≤ 1) ∧ (s (174 + i) = 0 → 1 ≤ s (94 + i)) ∧ (s (174 + i) ≠ 0 → s (94 + i) = 0)
def OrdV (s : Int → Int) (o : Int) : Prop := (1 ≤ s (414 + 8 * o) ∧ s (414 + 8 * o) ≤ 200) ∧ (1 ≤ s (414 + 8 * o + 1) ∧ s (414 + 8 * o + 1) ≤ 9) ∧ (0 ≤ s (414 + 8 * o + 2) ∧ s (414 + 8 * o + 2) ≤ 99) ∧ (0 ≤ s (414 + 8 * o + 3) ∧ s (414 + 8 * o + 3) ≤ 999) ∧ (0 ≤ s (414 + 8 * o + 4) ∧ s (414 + 8 * o + 4) ≤ 9) ∧ (0 ≤ s (414 + 8 * o + 5) ∧ s (414 + 8 * o + 5) ≤ 9) ∧ (0 ≤ s (414 + 8 * o + 6) ∧ s (414 + 8 * o + 6) ≤ 9) ∧ (0 ≤ s (414 + 8 * o + 7) ∧ s (414 + 8 * o + 7) ≤ 1) ∧ s (414 + 8 * o + 4) + s (414 + 8 * o + 5) + s (414 + 8 * o + 6) ≤ 9
def Val (b : Int) (q s : Int → Int) : Prop := (0 ≤ b ∧ b ≤ 1000000) ∧ (0 ≤ s 0 ∧ s 0 ≤ b) ∧ (0 ≤ s 1 ∧ s 1 ≤ 9) ∧ (1 ≤ s 2 ∧ s 2 ≤ 200) ∧ (0 ≤ s 3 ∧ s 3 ≤ 80) ∧ (0 ≤ s 4 ∧ s 4 ≤ 16) ∧ (0 ≤ s 5 ∧ s 5 ≤ 60) ∧ (∀ i : Int, 0 ≤ i → i < s 3 → RodV q s i) ∧ (∀ o : Int, 0 ≤ o → o < s 4 → OrdV s o) ∧ (∀ l : Int, 0 ≤ l → l ≤ 200 → 0 ≤ s (542 + l) ∧ s (542 + l) ≤ b) ∧ ValQ q
theorem RepS_f0 {M : AM} {B : Nat} {s : Int → Int} (h : RepS M B s) : M B 0 = s 0 := h.1
theorem RepS_f2 {M : AM} {B : Nat} {s : Int → Int} (h : RepS M B s) : M B 2 = s 3 := h.2.1
theorem RepS_f4 {M : AM} {B : Nat} {s : Int → Int} (h : RepS M B s) : M B 4 = s 4 := h.2.2.1
theorem RepS_f7 {M : AM} {B : Nat} {s : Int → Int} (h : RepS M B s) : M B 7 = s 5 := h.2.2.2.1
theorem RepS_1 {M : AM} {B : Nat} {s : Int → Int} (h : RepS M B s) {i : Int} (h0 : 0 ≤ i) (h1 : i < 2) : M (B + 1) i = s (1 + i) := h.2.2.2.2.1 i h0 h1
theorem RepS_1_0 {M : AM} {B : Nat} {s : Int → Int} (h : RepS M B s) : M (B + 1) 0 = s 1 := h.2.2.2.2.1 0 (by decide) (by decide)
theorem RepS_1_1 {M : AM} {B : Nat} {s : Int → Int} (h : RepS M B s) : M (B + 1) 1 = s 2 := h.2.2.2.2.1 1 (by decide) (by decide)
theorem RepS_23 {M : AM} {B : Nat} {s : Int → Int} (h : RepS M B s) {i : Int} (h0 : 0 ≤ i) (h1 : i < 8) : M (B + 23) i = s (6 + i) := h.2.2.2.2.2.1 i h0 h1
theorem RepS_23_0 {M : AM} {B : Nat} {s : Int → Int} (h : RepS M B s) : M (B + 23) 0 = s 6 := h.2.2.2.2.2.1 0 (by decide) (by decide)
theorem RepS_23_1 {M : AM} {B : Nat} {s : Int → Int} (h : RepS M B s) : M (B + 23) 1 = s 7 := h.2.2.2.2.2.1 1 (by decide) (by decide)
theorem RepS_23_2 {M : AM} {B : Nat} {s : Int → Int} (h : RepS M B s) : M (B + 23) 2 = s 8 := h.2.2.2.2.2.1 2 (by decide) (by decide)
theorem RepS_23_3 {M : AM} {B : Nat} {s : Int → Int} (h : RepS M B s) : M (B + 23) 3 = s 9 := h.2.2.2.2.2.1 3 (by decide) (by decide)
theorem RepS_23_4 {M : AM} {B : Nat} {s : Int → Int} (h : RepS M B s) : M (B + 23) 4 = s 10 := h.2.2.2.2.2.1 4 (by decide) (by decide)
theorem RepS_23_5 {M : AM} {B : Nat} {s : Int → Int} (h : RepS M B s) : M (B + 23) 5 = s 11 := h.2.2.2.2.2.1 5 (by decide) (by decide)
theorem RepS_23_6 {M : AM} {B : Nat} {s : Int → Int} (h : RepS M B s) : M (B + 23) 6 = s 12 := h.2.2.2.2.2.1 6 (by decide) (by decide)
theorem RepS_23_7 {M : AM} {B : Nat} {s : Int → Int} (h : RepS M B s) : M (B + 23) 7 = s 13 := h.2.2.2.2.2.1 7 (by decide) (by decide)
theorem RepS_17 {M : AM} {B : Nat} {s : Int → Int} (h : RepS M B s) {i : Int} (h0 : 0 ≤ i) (h1 : i ≤ 200) : M (B + 17) i = s (542 + i) := h.2.2.2.2.2.2.1 i h0 h1
theorem RepS_3 {M : AM} {B : Nat} {s : Int → Int} (h : RepS M B s) {i : Int} (h0 : 0 ≤ i) (h1 : i < s 3) : M (B + 3) i = s (14 + i) := h.2.2.2.2.2.2.2.1 0 (by decide) i h0 h1
theorem RepS_4 {M : AM} {B : Nat} {s : Int → Int} (h : RepS M B s) {i : Int} (h0 : 0 ≤ i) (h1 : i < s 3) : M (B + 4) i = s (94 + i) := h.2.2.2.2.2.2.2.1 1 (by decide) i h0 h1
theorem RepS_5 {M : AM} {B : Nat} {s : Int → Int} (h : RepS M B s) {i : Int} (h0 : 0 ≤ i) (h1 : i < s 3) : M (B + 5) i = s (174 + i) := h.2.2.2.2.2.2.2.1 2 (by decide) i h0 h1
theorem RepS_6 {M : AM} {B : Nat} {s : Int → Int} (h : RepS M B s) {i : Int} (h0 : 0 ≤ i) (h1 : i < s 3) : M (B + 6) i = s (254 + i) := h.2.2.2.2.2.2.2.1 3 (by decide) i h0 h1
theorem RepS_7 {M : AM} {B : Nat} {s : Int → Int} (h : RepS M B s) {i : Int} (h0 : 0 ≤ i) (h1 : i < s 3) : M (B + 7) i = s (334 + i) := h.2.2.2.2.2.2.2.1 4 (by decide) i h0 h1
theorem RepS_9 {M : AM} {B : Nat} {s : Int → Int} (h : RepS M B s) {i : Int} (h0 : 0 ≤ i) (h1 : i < s 4) : M (B + 9) i = s (414 + (8 * i)) := h.2.2.2.2.2.2.2.2.1 0 (by decide) i h0 h1 |>.trans (congrArg s (Int.add_zero _))
theorem RepS_10 {M : AM} {B : Nat} {s : Int → Int} (h : RepS M B s) {i : Int} (h0 : 0 ≤ i) (h1 : i < s 4) : M (B + 10) i = s ((414 + (8 * i)) + 1) := h.2.2.2.2.2.2.2.2.1 1 (by decide) i h0 h1
theorem RepS_11 {M : AM} {B : Nat} {s : Int → Int} (h : RepS M B s) {i : Int} (h0 : 0 ≤ i) (h1 : i < s 4) : M (B + 11) i = s ((414 + (8 * i)) + 2) := h.2.2.2.2.2.2.2.2.1 2 (by decide) i h0 h1
theorem RepS_12 {M : AM} {B : Nat} {s : Int → Int} (h : RepS M B s) {i : Int} (h0 : 0 ≤ i) (h1 : i < s 4) : M (B + 12) i = s ((414 + (8 * i)) + 3) := h.2.2.2.2.2.2.2.2.1 3 (by decide) i h0 h1
theorem RepS_13 {M : AM} {B : Nat} {s : Int → Int} (h : RepS M B s) {i : Int} (h0 : 0 ≤ i) (h1 : i < s 4) : M (B + 13) i = s ((414 + (8 * i)) + 4) := h.2.2.2.2.2.2.2.2.1 4 (by decide) i h0 h1
theorem RepS_14 {M : AM} {B : Nat} {s : Int → Int} (h : RepS M B s) {i : Int} (h0 : 0 ≤ i) (h1 : i < s 4) : M (B + 14) i = s ((414 + (8 * i)) + 5) := h.2.2.2.2.2.2.2.2.1 5 (by decide) i h0 h1
theorem RepS_15 {M : AM} {B : Nat} {s : Int → Int} (h : RepS M B s) {i : Int} (h0 : 0 ≤ i) (h1 : i < s 4) : M (B + 15) i = s ((414 + (8 * i)) + 6) := h.2.2.2.2.2.2.2.2.1 6 (by decide) i h0 h1
theorem RepS_16 {M : AM} {B : Nat} {s : Int → Int} (h : RepS M B s) {i : Int} (h0 : 0 ≤ i) (h1 : i < s 4) : M (B + 16) i = s ((414 + (8 * i)) + 7) := h.2.2.2.2.2.2.2.2.1 7 (by decide) i h0 h1
theorem RepS_19 {M : AM} {B : Nat} {s : Int → Int} (h : RepS M B s) {i : Int} (h0 : 0 ≤ i) (h1 : i < s 5) : M (B + 19) i = s (743 + (4 * i)) := h.2.2.2.2.2.2.2.2.2 0 (by decide) i h0 h1 |>.trans (congrArg s (Int.add_zero _))
theorem RepS_20 {M : AM} {B : Nat} {s : Int → Int} (h : RepS M B s) {i : Int} (h0 : 0 ≤ i) (h1 : i < s 5) : M (B + 20) i = s ((743 + (4 * i)) + 1) := h.2.2.2.2.2.2.2.2.2 1 (by decide) i h0 h1
theorem RepS_21 {M : AM} {B : Nat} {s : Int → Int} (h : RepS M B s) {i : Int} (h0 : 0 ≤ i) (h1 : i < s 5) : M (B + 21) i = s ((743 + (4 * i)) + 2) := h.2.2.2.2.2.2.2.2.2 2 (by decide) i h0 h1
theorem RepS_22 {M : AM} {B : Nat} {s : Int → Int} (h : RepS M B s) {i : Int} (h0 : 0 ≤ i) (h1 : i < s 5) : M (B + 22) i = s ((743 + (4 * i)) + 3) := h.2.2.2.2.2.2.2.2.2 3 (by decide) i h0 h1
theorem RepS_rv {M : AM} {B : Nat} {s : Int → Int} (h : RepS M B s) {w i : Int} (g0 : 0 ≤ w) (g1 : w < 5) (h0 : 0 ≤ i) (h1 : i < s 3) : M (B + 3 + w.toNat) i = s ((14 + (80 * w)) + i) := by
  have h9 := h.2.2.2.2.2.2.2.1 w.toNat (by omega) i h0 h1
  rw [Int.toNat_of_nonneg g0] at h9
  exact h9
theorem RepS_ov {M : AM} {B : Nat} {s : Int → Int} (h : RepS M B s) {w i : Int} (g0 : 0 ≤ w) (g1 : w < 8) (h0 : 0 ≤ i) (h1 : i < s 4) : M (B + 9 + w.toNat) i = s ((414 + (8 * i)) + w) := by
  have h9 := h.2.2.2.2.2.2.2.2.1 w.toNat (by omega) i h0 h1
  rw [Int.toNat_of_nonneg g0] at h9
  exact h9
theorem RepS_lv {M : AM} {B : Nat} {s : Int → Int} (h : RepS M B s) {w i : Int} (g0 : 0 ≤ w) (g1 : w < 4) (h0 : 0 ≤ i) (h1 : i < s 5) : M (B + 19 + w.toNat) i = s ((743 + (4 * i)) + w) := by
  have h9 := h.2.2.2.2.2.2.2.2.2 w.toNat (by omega) i h0 h1
  rw [Int.toNat_of_nonneg g0] at h9
  exact h9
theorem RepP_f0 {M : AM} {P : Nat} {q : Int → Int} (h : RepP M P q) : M P 0 = q 0 := h.1
theorem RepP_f3 {M : AM} {P : Nat} {q : Int → Int} (h : RepP M P q) : M P 3 = q 1 := h.2.1
theorem RepP_1 {M : AM} {P : Nat} {q : Int → Int} (h : RepP M P q) {i : Int} (h0 : 0 ≤ i) (h1 : i < q 0) : M (P + 1) i = q (2 + i) := h.2.2.1 i h0 h1
theorem RepP_2 {M : AM} {P : Nat} {q : Int → Int} (h : RepP M P q) {i : Int} (h0 : 0 ≤ i) (h1 : i < q 0) : M (P + 2) i = q (6 + i) := h.2.2.2.1 i h0 h1
theorem RepP_3 {M : AM} {P : Nat} {q : Int → Int} (h : RepP M P q) {i : Int} (h0 : 0 ≤ i) (h1 : i < q 1) : M (P + 3) i = q (10 + i) := h.2.2.2.2.1 i h0 h1
theorem RepP_pv {M : AM} {P : Nat} {q : Int → Int} (h : RepP M P q) {w i : Int} (g0 : 0 ≤ w) (g1 : w < q 1) (g2 : w < 6) (h0 : 0 ≤ i) (h1 : i < q (10 + w)) : M (P + 5 + w.toNat) i = q (16 + ((6 * w) + i)) := by
  have e := Int.toNat_of_nonneg g0
  have h9 := h.2.2.2.2.2 w.toNat (by omega) (by omega) i h0 (by rw [e]; exact h1)
  rw [e] at h9
  exact h9
theorem V_b {b : Int} {q s : Int → Int} (h : Val b q s) : 0 ≤ b ∧ b ≤ 1000000 := h.1
theorem V_0 {b : Int} {q s : Int → Int} (h : Val b q s) : 0 ≤ s 0 ∧ s 0 ≤ 1000000 := ⟨h.2.1.1, Int.le_trans h.2.1.2 h.1.2⟩
theorem V_1 {b : Int} {q s : Int → Int} (h : Val b q s) : 0 ≤ s 1 ∧ s 1 ≤ 9 := h.2.2.1
theorem V_2 {b : Int} {q s : Int → Int} (h : Val b q s) : 1 ≤ s 2 ∧ s 2 ≤ 200 := h.2.2.2.1
theorem V_3 {b : Int} {q s : Int → Int} (h : Val b q s) : 0 ≤ s 3 ∧ s 3 ≤ 80 := h.2.2.2.2.1
theorem V_4 {b : Int} {q s : Int → Int} (h : Val b q s) : 0 ≤ s 4 ∧ s 4 ≤ 16 := h.2.2.2.2.2.1
theorem V_5 {b : Int} {q s : Int → Int} (h : Val b q s) : 0 ≤ s 5 ∧ s 5 ≤ 60 := h.2.2.2.2.2.2.1
theorem V_d0 {b : Int} {q s : Int → Int} (h : Val b q s) {i : Int} (h0 : 0 ≤ i) (h1 : i < s 3) : 0 ≤ s (14 + i) ∧ s (14 + i) < q 0 := (h.2.2.2.2.2.2.2.1 i h0 h1).1
theorem V_d1 {b : Int} {q s : Int → Int} (h : Val b q s) {i : Int} (h0 : 0 ≤ i) (h1 : i < s 3) : 0 ≤ s (94 + i) ∧ s (94 + i) ≤ 200 := (h.2.2.2.2.2.2.2.1 i h0 h1).2.1
theorem V_d2 {b : Int} {q s : Int → Int} (h : Val b q s) {i : Int} (h0 : 0 ≤ i) (h1 : i < s 3) : 0 ≤ s (174 + i) ∧ s (174 + i) ≤ 2 := (h.2.2.2.2.2.2.2.1 i h0 h1).2.2.1
theorem V_d4 {b : Int} {q s : Int → Int} (h : Val b q s) {i : Int} (h0 : 0 ≤ i) (h1 : i < s 3) : 0 ≤ s (334 + i) ∧ s (334 + i) ≤ 1 := (h.2.2.2.2.2.2.2.1 i h0 h1).2.2.2.1
theorem V_st {b : Int} {q s : Int → Int} (h : Val b q s) {i : Int} (h0 : 0 ≤ i) (h1 : i < s 3) (h2 : s (174 + i) = 0) : 1 ≤ s (94 + i) := (h.2.2.2.2.2.2.2.1 i h0 h1).2.2.2.2.1 h2
theorem V_us {b : Int} {q s : Int → Int} (h : Val b q s) {i : Int} (h0 : 0 ≤ i) (h1 : i < s 3) (h2 : s (174 + i) ≠ 0) : s (94 + i) = 0 := (h.2.2.2.2.2.2.2.1 i h0 h1).2.2.2.2.2 h2
theorem V_o0 {b : Int} {q s : Int → Int} (h : Val b q s) {i : Int} (h0 : 0 ≤ i) (h1 : i < s 4) : 1 ≤ s (414 + (8 * i)) ∧ s (414 + (8 * i)) ≤ 200 := (h.2.2.2.2.2.2.2.2.1 i h0 h1).1
theorem V_o1 {b : Int} {q s : Int → Int} (h : Val b q s) {i : Int} (h0 : 0 ≤ i) (h1 : i < s 4) : 1 ≤ s ((414 + (8 * i)) + 1) ∧ s ((414 + (8 * i)) + 1) ≤ 9 := (h.2.2.2.2.2.2.2.2.1 i h0 h1).2.1
theorem V_o2 {b : Int} {q s : Int → Int} (h : Val b q s) {i : Int} (h0 : 0 ≤ i) (h1 : i < s 4) : 0 ≤ s ((414 + (8 * i)) + 2) ∧ s ((414 + (8 * i)) + 2) ≤ 99 := (h.2.2.2.2.2.2.2.2.1 i h0 h1).2.2.1
theorem V_o3 {b : Int} {q s : Int → Int} (h : Val b q s) {i : Int} (h0 : 0 ≤ i) (h1 : i < s 4) : 0 ≤ s ((414 + (8 * i)) + 3) ∧ s ((414 + (8 * i)) + 3) ≤ 999 := (h.2.2.2.2.2.2.2.2.1 i h0 h1).2.2.2.1
theorem V_o4 {b : Int} {q s : Int → Int} (h : Val b q s) {i : Int} (h0 : 0 ≤ i) (h1 : i < s 4) : 0 ≤ s ((414 + (8 * i)) + 4) ∧ s ((414 + (8 * i)) + 4) ≤ 9 := (h.2.2.2.2.2.2.2.2.1 i h0 h1).2.2.2.2.1
theorem V_o5 {b : Int} {q s : Int → Int} (h : Val b q s) {i : Int} (h0 : 0 ≤ i) (h1 : i < s 4) : 0 ≤ s ((414 + (8 * i)) + 5) ∧ s ((414 + (8 * i)) + 5) ≤ 9 := (h.2.2.2.2.2.2.2.2.1 i h0 h1).2.2.2.2.2.1
theorem V_o6 {b : Int} {q s : Int → Int} (h : Val b q s) {i : Int} (h0 : 0 ≤ i) (h1 : i < s 4) : 0 ≤ s ((414 + (8 * i)) + 6) ∧ s ((414 + (8 * i)) + 6) ≤ 9 := (h.2.2.2.2.2.2.2.2.1 i h0 h1).2.2.2.2.2.2.1
theorem V_o7 {b : Int} {q s : Int → Int} (h : Val b q s) {i : Int} (h0 : 0 ≤ i) (h1 : i < s 4) : 0 ≤ s ((414 + (8 * i)) + 7) ∧ s ((414 + (8 * i)) + 7) ≤ 1 := (h.2.2.2.2.2.2.2.2.1 i h0 h1).2.2.2.2.2.2.2.1
theorem V_o8 {b : Int} {q s : Int → Int} (h : Val b q s) {i : Int} (h0 : 0 ≤ i) (h1 : i < s 4) : s ((414 + (8 * i)) + 4) + s ((414 + (8 * i)) + 5) + s ((414 + (8 * i)) + 6) ≤ 9 := (h.2.2.2.2.2.2.2.2.1 i h0 h1).2.2.2.2.2.2.2.2
theorem V_s {b : Int} {q s : Int → Int} (h : Val b q s) {i : Int} (h0 : 0 ≤ i) (h1 : i ≤ 200) : 0 ≤ s (542 + i) ∧ s (542 + i) ≤ 1000000 := ⟨(h.2.2.2.2.2.2.2.2.2.1 i h0 h1).1, Int.le_trans (h.2.2.2.2.2.2.2.2.2.1 i h0 h1).2 h.1.2⟩
theorem V_q {b : Int} {q s : Int → Int} (h : Val b q s) : ValQ q := h.2.2.2.2.2.2.2.2.2.2
theorem Q_0 {q : Int → Int} (h : ValQ q) : 0 ≤ q 0 ∧ q 0 ≤ 4 := h.1
theorem Q_1 {q : Int → Int} (h : ValQ q) : 0 ≤ q 1 ∧ q 1 ≤ 6 := h.2.1
theorem Q_2 {q : Int → Int} (h : ValQ q) {i : Int} (h0 : 0 ≤ i) (h1 : i < q 0) : 1 ≤ q (2 + i) ∧ q (2 + i) ≤ 200 := (h.2.2.1 i h0 h1).1
theorem Q_6 {q : Int → Int} (h : ValQ q) {i : Int} (h0 : 0 ≤ i) (h1 : i < q 0) : 1 ≤ q (6 + i) ∧ q (6 + i) ≤ 99 := (h.2.2.1 i h0 h1).2
theorem Q_10 {q : Int → Int} (h : ValQ q) {i : Int} (h0 : 0 ≤ i) (h1 : i < q 1) : 1 ≤ q (10 + i) ∧ q (10 + i) ≤ 6 := (h.2.2.2 i h0 h1).1
theorem Q_16 {q : Int → Int} (h : ValQ q) {w i : Int} (g0 : 0 ≤ w) (g1 : w < q 1) (h0 : 0 ≤ i) (h1 : i < q (10 + w)) : 1 ≤ q (16 + ((6 * w) + i)) ∧ q (16 + ((6 * w) + i)) ≤ 200 := (h.2.2.2 w g0 g1).2 i h0 h1
theorem RepS_wf0 {M : AM} {B : Nat} {s : Int → Int} (h : RepS M B s) {v : Int} (l3 : s 3 ≤ 80) (l4 : s 4 ≤ 16) (l5 : s 5 ≤ 60) : RepS (up2 M B 0 v) B (upI s 0 v) := by
  refine ⟨rw2 (by omega) h.1,
  rw2 (by omega) h.2.1,
  rw2 (by omega) h.2.2.1,
  rw2 (by omega) h.2.2.2.1,
  fun j g0 g1 => rw2 (by omega) (h.2.2.2.2.1 j g0 g1),
  fun j g0 g1 => rw2 (by omega) (h.2.2.2.2.2.1 j g0 g1),
  fun j g0 g1 => rw2 (by omega) (h.2.2.2.2.2.2.1 j g0 g1),
  fun u hu j g0 g1 => by
    rw [upI_ne (by omega)] at g1
    exact rw2 (by omega) (h.2.2.2.2.2.2.2.1 u hu j g0 g1),
  fun u hu j g0 g1 => by
    rw [upI_ne (by omega)] at g1
    exact rw2 (by omega) (h.2.2.2.2.2.2.2.2.1 u hu j g0 g1),
  fun u hu j g0 g1 => by
    rw [upI_ne (by omega)] at g1
    exact rw2 (by omega) (h.2.2.2.2.2.2.2.2.2 u hu j g0 g1)⟩
theorem RepS_w1 {M : AM} {B : Nat} {s : Int → Int} (h : RepS M B s) {i v : Int} (h0 : 0 ≤ i) (h1 : i < 2) (l3 : s 3 ≤ 80) (l4 : s 4 ≤ 16) (l5 : s 5 ≤ 60) : RepS (up2 M (B + 1) i v) B (upI s (1 + i) v) := by
  refine ⟨rw2 (by omega) h.1,
  rw2 (by omega) h.2.1,
  rw2 (by omega) h.2.2.1,
  rw2 (by omega) h.2.2.2.1,
  fun j g0 g1 => rw2 (by omega) (h.2.2.2.2.1 j g0 g1),
  fun j g0 g1 => rw2 (by omega) (h.2.2.2.2.2.1 j g0 g1),
  fun j g0 g1 => rw2 (by omega) (h.2.2.2.2.2.2.1 j g0 g1),
  fun u hu j g0 g1 => by
    rw [upI_ne (by omega)] at g1
    exact rw2 (by omega) (h.2.2.2.2.2.2.2.1 u hu j g0 g1),
  fun u hu j g0 g1 => by
    rw [upI_ne (by omega)] at g1
    exact rw2 (by omega) (h.2.2.2.2.2.2.2.2.1 u hu j g0 g1),
  fun u hu j g0 g1 => by
    rw [upI_ne (by omega)] at g1
    exact rw2 (by omega) (h.2.2.2.2.2.2.2.2.2 u hu j g0 g1)⟩
theorem RepS_w23 {M : AM} {B : Nat} {s : Int → Int} (h : RepS M B s) {i v : Int} (h0 : 0 ≤ i) (h1 : i < 8) (l3 : s 3 ≤ 80) (l4 : s 4 ≤ 16) (l5 : s 5 ≤ 60) : RepS (up2 M (B + 23) i v) B (upI s (6 + i) v) := by
  refine ⟨rw2 (by omega) h.1,
  rw2 (by omega) h.2.1,
  rw2 (by omega) h.2.2.1,
  rw2 (by omega) h.2.2.2.1,
  fun j g0 g1 => rw2 (by omega) (h.2.2.2.2.1 j g0 g1),
  fun j g0 g1 => rw2 (by omega) (h.2.2.2.2.2.1 j g0 g1),
  fun j g0 g1 => rw2 (by omega) (h.2.2.2.2.2.2.1 j g0 g1),
  fun u hu j g0 g1 => by
    rw [upI_ne (by omega)] at g1
    exact rw2 (by omega) (h.2.2.2.2.2.2.2.1 u hu j g0 g1),
  fun u hu j g0 g1 => by
    rw [upI_ne (by omega)] at g1
    exact rw2 (by omega) (h.2.2.2.2.2.2.2.2.1 u hu j g0 g1),
  fun u hu j g0 g1 => by
    rw [upI_ne (by omega)] at g1
    exact rw2 (by omega) (h.2.2.2.2.2.2.2.2.2 u hu j g0 g1)⟩
theorem RepS_w17 {M : AM} {B : Nat} {s : Int → Int} (h : RepS M B s) {i v : Int} (h0 : 0 ≤ i) (h1 : i ≤ 200) (l3 : s 3 ≤ 80) (l4 : s 4 ≤ 16) (l5 : s 5 ≤ 60) : RepS (up2 M (B + 17) i v) B (upI s (542 + i) v) := by
  refine ⟨rw2 (by omega) h.1,
  rw2 (by omega) h.2.1,
  rw2 (by omega) h.2.2.1,
  rw2 (by omega) h.2.2.2.1,
  fun j g0 g1 => rw2 (by omega) (h.2.2.2.2.1 j g0 g1),
  fun j g0 g1 => rw2 (by omega) (h.2.2.2.2.2.1 j g0 g1),
  fun j g0 g1 => rw2 (by omega) (h.2.2.2.2.2.2.1 j g0 g1),
  fun u hu j g0 g1 => by
    rw [upI_ne (by omega)] at g1
    exact rw2 (by omega) (h.2.2.2.2.2.2.2.1 u hu j g0 g1),
  fun u hu j g0 g1 => by
    rw [upI_ne (by omega)] at g1
    exact rw2 (by omega) (h.2.2.2.2.2.2.2.2.1 u hu j g0 g1),
  fun u hu j g0 g1 => by
    rw [upI_ne (by omega)] at g1
    exact rw2 (by omega) (h.2.2.2.2.2.2.2.2.2 u hu j g0 g1)⟩
theorem RepS_w3 {M : AM} {B : Nat} {s : Int → Int} (h : RepS M B s) {i v : Int} (h0 : 0 ≤ i) (h1 : i < s 3) (l3 : s 3 ≤ 80) (l4 : s 4 ≤ 16) (l5 : s 5 ≤ 60) : RepS (up2 M (B + 3) i v) B (upI s (14 + i) v) := by
  refine ⟨rw2 (by omega) h.1,
  rw2 (by omega) h.2.1,
  rw2 (by omega) h.2.2.1,
  rw2 (by omega) h.2.2.2.1,
  fun j g0 g1 => rw2 (by omega) (h.2.2.2.2.1 j g0 g1),
  fun j g0 g1 => rw2 (by omega) (h.2.2.2.2.2.1 j g0 g1),
  fun j g0 g1 => rw2 (by omega) (h.2.2.2.2.2.2.1 j g0 g1),
  fun u hu j g0 g1 => by
    rw [upI_ne (by omega)] at g1
    exact rw2 (by omega) (h.2.2.2.2.2.2.2.1 u hu j g0 g1),
  fun u hu j g0 g1 => by
    rw [upI_ne (by omega)] at g1
    exact rw2 (by omega) (h.2.2.2.2.2.2.2.2.1 u hu j g0 g1),
  fun u hu j g0 g1 => by
    rw [upI_ne (by omega)] at g1
    exact rw2 (by omega) (h.2.2.2.2.2.2.2.2.2 u hu j g0 g1)⟩
theorem RepS_w4 {M : AM} {B : Nat} {s : Int → Int} (h : RepS M B s) {i v : Int} (h0 : 0 ≤ i) (h1 : i < s 3) (l3 : s 3 ≤ 80) (l4 : s 4 ≤ 16) (l5 : s 5 ≤ 60) : RepS (up2 M (B + 4) i v) B (upI s (94 + i) v) := by
  refine ⟨rw2 (by omega) h.1,
  rw2 (by omega) h.2.1,
  rw2 (by omega) h.2.2.1,
  rw2 (by omega) h.2.2.2.1,
  fun j g0 g1 => rw2 (by omega) (h.2.2.2.2.1 j g0 g1),
  fun j g0 g1 => rw2 (by omega) (h.2.2.2.2.2.1 j g0 g1),
  fun j g0 g1 => rw2 (by omega) (h.2.2.2.2.2.2.1 j g0 g1),
  fun u hu j g0 g1 => by
    rw [upI_ne (by omega)] at g1
    exact rw2 (by omega) (h.2.2.2.2.2.2.2.1 u hu j g0 g1),
  fun u hu j g0 g1 => by
    rw [upI_ne (by omega)] at g1
    exact rw2 (by omega) (h.2.2.2.2.2.2.2.2.1 u hu j g0 g1),
  fun u hu j g0 g1 => by
    rw [upI_ne (by omega)] at g1
    exact rw2 (by omega) (h.2.2.2.2.2.2.2.2.2 u hu j g0 g1)⟩
theorem RepS_w5 {M : AM} {B : Nat} {s : Int → Int} (h : RepS M B s) {i v : Int} (h0 : 0 ≤ i) (h1 : i < s 3) (l3 : s 3 ≤ 80) (l4 : s 4 ≤ 16) (l5 : s 5 ≤ 60) : RepS (up2 M (B + 5) i v) B (upI s (174 + i) v) := by
  refine ⟨rw2 (by omega) h.1,
  rw2 (by omega) h.2.1,
  rw2 (by omega) h.2.2.1,
  rw2 (by omega) h.2.2.2.1,
  fun j g0 g1 => rw2 (by omega) (h.2.2.2.2.1 j g0 g1),
  fun j g0 g1 => rw2 (by omega) (h.2.2.2.2.2.1 j g0 g1),
  fun j g0 g1 => rw2 (by omega) (h.2.2.2.2.2.2.1 j g0 g1),
  fun u hu j g0 g1 => by
    rw [upI_ne (by omega)] at g1
    exact rw2 (by omega) (h.2.2.2.2.2.2.2.1 u hu j g0 g1),
  fun u hu j g0 g1 => by
    rw [upI_ne (by omega)] at g1
    exact rw2 (by omega) (h.2.2.2.2.2.2.2.2.1 u hu j g0 g1),
  fun u hu j g0 g1 => by
    rw [upI_ne (by omega)] at g1
    exact rw2 (by omega) (h.2.2.2.2.2.2.2.2.2 u hu j g0 g1)⟩
theorem RepS_w6 {M : AM} {B : Nat} {s : Int → Int} (h : RepS M B s) {i v : Int} (h0 : 0 ≤ i) (h1 : i < s 3) (l3 : s 3 ≤ 80) (l4 : s 4 ≤ 16) (l5 : s 5 ≤ 60) : RepS (up2 M (B + 6) i v) B (upI s (254 + i) v) := by
  refine ⟨rw2 (by omega) h.1,
  rw2 (by omega) h.2.1,
  rw2 (by omega) h.2.2.1,
  rw2 (by omega) h.2.2.2.1,
  fun j g0 g1 => rw2 (by omega) (h.2.2.2.2.1 j g0 g1),
  fun j g0 g1 => rw2 (by omega) (h.2.2.2.2.2.1 j g0 g1),
  fun j g0 g1 => rw2 (by omega) (h.2.2.2.2.2.2.1 j g0 g1),
  fun u hu j g0 g1 => by
    rw [upI_ne (by omega)] at g1
    exact rw2 (by omega) (h.2.2.2.2.2.2.2.1 u hu j g0 g1),
  fun u hu j g0 g1 => by
    rw [upI_ne (by omega)] at g1
    exact rw2 (by omega) (h.2.2.2.2.2.2.2.2.1 u hu j g0 g1),
  fun u hu j g0 g1 => by
    rw [upI_ne (by omega)] at g1
    exact rw2 (by omega) (h.2.2.2.2.2.2.2.2.2 u hu j g0 g1)⟩
theorem RepS_w7 {M : AM} {B : Nat} {s : Int → Int} (h : RepS M B s) {i v : Int} (h0 : 0 ≤ i) (h1 : i < s 3) (l3 : s 3 ≤ 80) (l4 : s 4 ≤ 16) (l5 : s 5 ≤ 60) : RepS (up2 M (B + 7) i v) B (upI s (334 + i) v) := by
  refine ⟨rw2 (by omega) h.1,
  rw2 (by omega) h.2.1,
  rw2 (by omega) h.2.2.1,
  rw2 (by omega) h.2.2.2.1,
  fun j g0 g1 => rw2 (by omega) (h.2.2.2.2.1 j g0 g1),
  fun j g0 g1 => rw2 (by omega) (h.2.2.2.2.2.1 j g0 g1),
  fun j g0 g1 => rw2 (by omega) (h.2.2.2.2.2.2.1 j g0 g1),
  fun u hu j g0 g1 => by
    rw [upI_ne (by omega)] at g1
    exact rw2 (by omega) (h.2.2.2.2.2.2.2.1 u hu j g0 g1),
  fun u hu j g0 g1 => by
    rw [upI_ne (by omega)] at g1
    exact rw2 (by omega) (h.2.2.2.2.2.2.2.2.1 u hu j g0 g1),
  fun u hu j g0 g1 => by
    rw [upI_ne (by omega)] at g1
    exact rw2 (by omega) (h.2.2.2.2.2.2.2.2.2 u hu j g0 g1)⟩
theorem RepS_w9 {M : AM} {B : Nat} {s : Int → Int} (h : RepS M B s) {i v : Int} (h0 : 0 ≤ i) (h1 : i < s 4) (l3 : s 3 ≤ 80) (l4 : s 4 ≤ 16) (l5 : s 5 ≤ 60) : RepS (up2 M (B + 9) i v) B (upI s (414 + (8 * i)) v) := by
  refine ⟨rw2 (by omega) h.1,
  rw2 (by omega) h.2.1,
  rw2 (by omega) h.2.2.1,
  rw2 (by omega) h.2.2.2.1,
  fun j g0 g1 => rw2 (by omega) (h.2.2.2.2.1 j g0 g1),
  fun j g0 g1 => rw2 (by omega) (h.2.2.2.2.2.1 j g0 g1),
  fun j g0 g1 => rw2 (by omega) (h.2.2.2.2.2.2.1 j g0 g1),
  fun u hu j g0 g1 => by
    rw [upI_ne (by omega)] at g1
    exact rw2 (by omega) (h.2.2.2.2.2.2.2.1 u hu j g0 g1),
  fun u hu j g0 g1 => by
    rw [upI_ne (by omega)] at g1
    exact rw2 (by omega) (h.2.2.2.2.2.2.2.2.1 u hu j g0 g1),
  fun u hu j g0 g1 => by
    rw [upI_ne (by omega)] at g1
    exact rw2 (by omega) (h.2.2.2.2.2.2.2.2.2 u hu j g0 g1)⟩
theorem RepS_w10 {M : AM} {B : Nat} {s : Int → Int} (h : RepS M B s) {i v : Int} (h0 : 0 ≤ i) (h1 : i < s 4) (l3 : s 3 ≤ 80) (l4 : s 4 ≤ 16) (l5 : s 5 ≤ 60) : RepS (up2 M (B + 10) i v) B (upI s ((414 + (8 * i)) + 1) v) := by
  refine ⟨rw2 (by omega) h.1,
  rw2 (by omega) h.2.1,
  rw2 (by omega) h.2.2.1,
  rw2 (by omega) h.2.2.2.1,
  fun j g0 g1 => rw2 (by omega) (h.2.2.2.2.1 j g0 g1),
  fun j g0 g1 => rw2 (by omega) (h.2.2.2.2.2.1 j g0 g1),
  fun j g0 g1 => rw2 (by omega) (h.2.2.2.2.2.2.1 j g0 g1),
  fun u hu j g0 g1 => by
    rw [upI_ne (by omega)] at g1
    exact rw2 (by omega) (h.2.2.2.2.2.2.2.1 u hu j g0 g1),
  fun u hu j g0 g1 => by
    rw [upI_ne (by omega)] at g1
    exact rw2 (by omega) (h.2.2.2.2.2.2.2.2.1 u hu j g0 g1),
  fun u hu j g0 g1 => by
    rw [upI_ne (by omega)] at g1
    exact rw2 (by omega) (h.2.2.2.2.2.2.2.2.2 u hu j g0 g1)⟩
theorem RepS_w11 {M : AM} {B : Nat} {s : Int → Int} (h : RepS M B s) {i v : Int} (h0 : 0 ≤ i) (h1 : i < s 4) (l3 : s 3 ≤ 80) (l4 : s 4 ≤ 16) (l5 : s 5 ≤ 60) : RepS (up2 M (B + 11) i v) B (upI s ((414 + (8 * i)) + 2) v) := by
  refine ⟨rw2 (by omega) h.1,
  rw2 (by omega) h.2.1,
  rw2 (by omega) h.2.2.1,
  rw2 (by omega) h.2.2.2.1,
  fun j g0 g1 => rw2 (by omega) (h.2.2.2.2.1 j g0 g1),
  fun j g0 g1 => rw2 (by omega) (h.2.2.2.2.2.1 j g0 g1),
  fun j g0 g1 => rw2 (by omega) (h.2.2.2.2.2.2.1 j g0 g1),
  fun u hu j g0 g1 => by
    rw [upI_ne (by omega)] at g1
    exact rw2 (by omega) (h.2.2.2.2.2.2.2.1 u hu j g0 g1),
  fun u hu j g0 g1 => by
    rw [upI_ne (by omega)] at g1
    exact rw2 (by omega) (h.2.2.2.2.2.2.2.2.1 u hu j g0 g1),
  fun u hu j g0 g1 => by
    rw [upI_ne (by omega)] at g1
    exact rw2 (by omega) (h.2.2.2.2.2.2.2.2.2 u hu j g0 g1)⟩
theorem RepS_w12 {M : AM} {B : Nat} {s : Int → Int} (h : RepS M B s) {i v : Int} (h0 : 0 ≤ i) (h1 : i < s 4) (l3 : s 3 ≤ 80) (l4 : s 4 ≤ 16) (l5 : s 5 ≤ 60) : RepS (up2 M (B + 12) i v) B (upI s ((414 + (8 * i)) + 3) v) := by
  refine ⟨rw2 (by omega) h.1,
  rw2 (by omega) h.2.1,
  rw2 (by omega) h.2.2.1,
  rw2 (by omega) h.2.2.2.1,
  fun j g0 g1 => rw2 (by omega) (h.2.2.2.2.1 j g0 g1),
  fun j g0 g1 => rw2 (by omega) (h.2.2.2.2.2.1 j g0 g1),
  fun j g0 g1 => rw2 (by omega) (h.2.2.2.2.2.2.1 j g0 g1),
  fun u hu j g0 g1 => by
    rw [upI_ne (by omega)] at g1
    exact rw2 (by omega) (h.2.2.2.2.2.2.2.1 u hu j g0 g1),
  fun u hu j g0 g1 => by
    rw [upI_ne (by omega)] at g1
    exact rw2 (by omega) (h.2.2.2.2.2.2.2.2.1 u hu j g0 g1),
  fun u hu j g0 g1 => by
    rw [upI_ne (by omega)] at g1
    exact rw2 (by omega) (h.2.2.2.2.2.2.2.2.2 u hu j g0 g1)⟩
theorem RepS_w13 {M : AM} {B : Nat} {s : Int → Int} (h : RepS M B s) {i v : Int} (h0 : 0 ≤ i) (h1 : i < s 4) (l3 : s 3 ≤ 80) (l4 : s 4 ≤ 16) (l5 : s 5 ≤ 60) : RepS (up2 M (B + 13) i v) B (upI s ((414 + (8 * i)) + 4) v) := by
  refine ⟨rw2 (by omega) h.1,
  rw2 (by omega) h.2.1,
  rw2 (by omega) h.2.2.1,
  rw2 (by omega) h.2.2.2.1,
  fun j g0 g1 => rw2 (by omega) (h.2.2.2.2.1 j g0 g1),
  fun j g0 g1 => rw2 (by omega) (h.2.2.2.2.2.1 j g0 g1),
  fun j g0 g1 => rw2 (by omega) (h.2.2.2.2.2.2.1 j g0 g1),
  fun u hu j g0 g1 => by
    rw [upI_ne (by omega)] at g1
    exact rw2 (by omega) (h.2.2.2.2.2.2.2.1 u hu j g0 g1),
  fun u hu j g0 g1 => by
    rw [upI_ne (by omega)] at g1
    exact rw2 (by omega) (h.2.2.2.2.2.2.2.2.1 u hu j g0 g1),
  fun u hu j g0 g1 => by
    rw [upI_ne (by omega)] at g1
    exact rw2 (by omega) (h.2.2.2.2.2.2.2.2.2 u hu j g0 g1)⟩
theorem RepS_w14 {M : AM} {B : Nat} {s : Int → Int} (h : RepS M B s) {i v : Int} (h0 : 0 ≤ i) (h1 : i < s 4) (l3 : s 3 ≤ 80) (l4 : s 4 ≤ 16) (l5 : s 5 ≤ 60) : RepS (up2 M (B + 14) i v) B (upI s ((414 + (8 * i)) + 5) v) := by
  refine ⟨rw2 (by omega) h.1,
  rw2 (by omega) h.2.1,
  rw2 (by omega) h.2.2.1,
  rw2 (by omega) h.2.2.2.1,
  fun j g0 g1 => rw2 (by omega) (h.2.2.2.2.1 j g0 g1),
  fun j g0 g1 => rw2 (by omega) (h.2.2.2.2.2.1 j g0 g1),
  fun j g0 g1 => rw2 (by omega) (h.2.2.2.2.2.2.1 j g0 g1),
  fun u hu j g0 g1 => by
    rw [upI_ne (by omega)] at g1
    exact rw2 (by omega) (h.2.2.2.2.2.2.2.1 u hu j g0 g1),
  fun u hu j g0 g1 => by
    rw [upI_ne (by omega)] at g1
    exact rw2 (by omega) (h.2.2.2.2.2.2.2.2.1 u hu j g0 g1),
  fun u hu j g0 g1 => by
    rw [upI_ne (by omega)] at g1
    exact rw2 (by omega) (h.2.2.2.2.2.2.2.2.2 u hu j g0 g1)⟩
theorem RepS_w15 {M : AM} {B : Nat} {s : Int → Int} (h : RepS M B s) {i v : Int} (h0 : 0 ≤ i) (h1 : i < s 4) (l3 : s 3 ≤ 80) (l4 : s 4 ≤ 16) (l5 : s 5 ≤ 60) : RepS (up2 M (B + 15) i v) B (upI s ((414 + (8 * i)) + 6) v) := by
  refine ⟨rw2 (by omega) h.1,
  rw2 (by omega) h.2.1,
  rw2 (by omega) h.2.2.1,
  rw2 (by omega) h.2.2.2.1,
  fun j g0 g1 => rw2 (by omega) (h.2.2.2.2.1 j g0 g1),
  fun j g0 g1 => rw2 (by omega) (h.2.2.2.2.2.1 j g0 g1),
  fun j g0 g1 => rw2 (by omega) (h.2.2.2.2.2.2.1 j g0 g1),
  fun u hu j g0 g1 => by
    rw [upI_ne (by omega)] at g1
    exact rw2 (by omega) (h.2.2.2.2.2.2.2.1 u hu j g0 g1),
  fun u hu j g0 g1 => by
    rw [upI_ne (by omega)] at g1
    exact rw2 (by omega) (h.2.2.2.2.2.2.2.2.1 u hu j g0 g1),
  fun u hu j g0 g1 => by
    rw [upI_ne (by omega)] at g1
    exact rw2 (by omega) (h.2.2.2.2.2.2.2.2.2 u hu j g0 g1)⟩
theorem RepS_w16 {M : AM} {B : Nat} {s : Int → Int} (h : RepS M B s) {i v : Int} (h0 : 0 ≤ i) (h1 : i < s 4) (l3 : s 3 ≤ 80) (l4 : s 4 ≤ 16) (l5 : s 5 ≤ 60) : RepS (up2 M (B + 16) i v) B (upI s ((414 + (8 * i)) + 7) v) := by
  refine ⟨rw2 (by omega) h.1,
  rw2 (by omega) h.2.1,
  rw2 (by omega) h.2.2.1,
  rw2 (by omega) h.2.2.2.1,
  fun j g0 g1 => rw2 (by omega) (h.2.2.2.2.1 j g0 g1),
  fun j g0 g1 => rw2 (by omega) (h.2.2.2.2.2.1 j g0 g1),
  fun j g0 g1 => rw2 (by omega) (h.2.2.2.2.2.2.1 j g0 g1),
  fun u hu j g0 g1 => by
    rw [upI_ne (by omega)] at g1
    exact rw2 (by omega) (h.2.2.2.2.2.2.2.1 u hu j g0 g1),
  fun u hu j g0 g1 => by
    rw [upI_ne (by omega)] at g1
    exact rw2 (by omega) (h.2.2.2.2.2.2.2.2.1 u hu j g0 g1),
  fun u hu j g0 g1 => by
    rw [upI_ne (by omega)] at g1
    exact rw2 (by omega) (h.2.2.2.2.2.2.2.2.2 u hu j g0 g1)⟩
def RepD (M : AM) (B : Nat) (s : Int → Int) : Prop := M B 4 = s 4 ∧ (∀ w : Nat, w < 8 → ∀ i : Int, 0 ≤ i → i < s 4 → M (B + 9 + w) i = s (414 + 8 * i + w))
theorem RepS.toD {M : AM} {B : Nat} {s : Int → Int} (h : RepS M B s) : RepD M B s := ⟨h.2.2.1, h.2.2.2.2.2.2.2.2.1⟩
theorem RepD_f4 {M : AM} {B : Nat} {s : Int → Int} (h : RepD M B s) : M B 4 = s 4 := h.1
theorem RepD.up {M : AM} {B : Nat} {s : Int → Int} (h : RepD M B s) {a : Nat} {x v : Int} (ha : a ≠ B ∧ (a < B + 9 ∨ B + 17 ≤ a)) : RepD (up2 M a x v) B s := ⟨by rw [up2_na (by omega)]; exact h.1, fun w hw i h0 h1 => by rw [up2_na (by omega)]; exact h.2 w hw i h0 h1⟩
theorem RepD.up0 {M : AM} {B : Nat} {s : Int → Int} (h : RepD M B s) {x v : Int} (hx : x ≠ 4) : RepD (up2 M B x v) B s := ⟨by rw [up2_rd, if_neg (by omega)]; exact h.1, fun w hw i h0 h1 => by rw [up2_na (by omega)]; exact h.2 w hw i h0 h1⟩
theorem RepD_9 {M : AM} {B : Nat} {s : Int → Int} (h : RepD M B s) {i : Int} (h0 : 0 ≤ i) (h1 : i < s 4) : M (B + 9) i = s (414 + (8 * i)) := h.2 0 (by decide) i h0 h1 |>.trans (congrArg s (Int.add_zero _))
theorem RepD_10 {M : AM} {B : Nat} {s : Int → Int} (h : RepD M B s) {i : Int} (h0 : 0 ≤ i) (h1 : i < s 4) : M (B + 10) i = s ((414 + (8 * i)) + 1) := h.2 1 (by decide) i h0 h1
theorem RepD_11 {M : AM} {B : Nat} {s : Int → Int} (h : RepD M B s) {i : Int} (h0 : 0 ≤ i) (h1 : i < s 4) : M (B + 11) i = s ((414 + (8 * i)) + 2) := h.2 2 (by decide) i h0 h1
theorem RepD_12 {M : AM} {B : Nat} {s : Int → Int} (h : RepD M B s) {i : Int} (h0 : 0 ≤ i) (h1 : i < s 4) : M (B + 12) i = s ((414 + (8 * i)) + 3) := h.2 3 (by decide) i h0 h1
theorem RepD_13 {M : AM} {B : Nat} {s : Int → Int} (h : RepD M B s) {i : Int} (h0 : 0 ≤ i) (h1 : i < s 4) : M (B + 13) i = s ((414 + (8 * i)) + 4) := h.2 4 (by decide) i h0 h1
theorem RepD_14 {M : AM} {B : Nat} {s : Int → Int} (h : RepD M B s) {i : Int} (h0 : 0 ≤ i) (h1 : i < s 4) : M (B + 14) i = s ((414 + (8 * i)) + 5) := h.2 5 (by decide) i h0 h1
theorem RepD_15 {M : AM} {B : Nat} {s : Int → Int} (h : RepD M B s) {i : Int} (h0 : 0 ≤ i) (h1 : i < s 4) : M (B + 15) i = s ((414 + (8 * i)) + 6) := h.2 6 (by decide) i h0 h1
theorem RepD_16 {M : AM} {B : Nat} {s : Int → Int} (h : RepD M B s) {i : Int} (h0 : 0 ≤ i) (h1 : i < s 4) : M (B + 16) i = s ((414 + (8 * i)) + 7) := h.2 7 (by decide) i h0 h1
theorem RepS.fr {M M' : AM} {B : Nat} {s : Int → Int} (h : RepS M B s) (e : ∀ a, B ≤ a → a < B + 24 → M' a = M a) : RepS M' B s := by
  unfold RepS
  rw [e B (by omega) (by omega), e (B + 1) (by omega) (by omega), e (B + 23) (by omega) (by omega), e (B + 17) (by omega) (by omega)]
  exact ⟨h.1, h.2.1, h.2.2.1, h.2.2.2.1, h.2.2.2.2.1, h.2.2.2.2.2.1, h.2.2.2.2.2.2.1, fun w hw i h0 h1 => by rw [e _ (by omega) (by omega)]; exact h.2.2.2.2.2.2.2.1 w hw i h0 h1, fun w hw i h0 h1 => by rw [e _ (by omega) (by omega)]; exact h.2.2.2.2.2.2.2.2.1 w hw i h0 h1, fun w hw i h0 h1 => by rw [e _ (by omega) (by omega)]; exact h.2.2.2.2.2.2.2.2.2 w hw i h0 h1⟩
theorem RepP.fr {M M' : AM} {P : Nat} {q : Int → Int} (h : RepP M P q) (e : ∀ a, P ≤ a → a < P + 11 → M' a = M a) : RepP M' P q := by
  unfold RepP
  rw [e P (by omega) (by omega), e (P + 1) (by omega) (by omega), e (P + 2) (by omega) (by omega), e (P + 3) (by omega) (by omega)]
  exact ⟨h.1, h.2.1, h.2.2.1, h.2.2.2.1, h.2.2.2.2.1, fun w hw hq i h0 h1 => by rw [e _ (by omega) (by omega)]; exact h.2.2.2.2.2 w hw hq i h0 h1⟩
def Lim (s : Int → Int) : Prop := s 3 ≤ 80 ∧ s 4 ≤ 16 ∧ s 5 ≤ 60
theorem V_lim {b : Int} {q s : Int → Int} (h : Val b q s) : Lim s := ⟨(V_3 h).2, (V_4 h).2, (V_5 h).2⟩
def RL (M : AM) (B : Nat) (s s0 : Int → Int) : Prop := RepS M B s ∧ s 3 = s0 3 ∧ s 4 = s0 4 ∧ s 5 = s0 5
theorem RL0 {M : AM} {B : Nat} {s : Int → Int} (h : RepS M B s) : RL M B s s := ⟨h, rfl, rfl, rfl⟩
theorem RL_wf0 {M : AM} {B : Nat} {s s0 : Int → Int} (h : RL M B s s0) {v : Int} (l : Lim s0)  : RL (up2 M B 0 v) B (upI s 0 v) s0 := by
  obtain ⟨h, e3, e4, e5⟩ := h
  obtain ⟨l3, l4, l5⟩ := l
  exact ⟨RepS_wf0 h (by omega) (by omega) (by omega), by rw [upI_ne (by omega)]; exact e3, by rw [upI_ne (by omega)]; exact e4, by rw [upI_ne (by omega)]; exact e5⟩
theorem RL_w1 {M : AM} {B : Nat} {s s0 : Int → Int} (h : RL M B s s0) {i v : Int} (l : Lim s0) (h0 : 0 ≤ i) (h1 : i < 2) : RL (up2 M (B + 1) i v) B (upI s (1 + i) v) s0 := by
  obtain ⟨h, e3, e4, e5⟩ := h
  obtain ⟨l3, l4, l5⟩ := l
  exact ⟨RepS_w1 h h0 h1 (by omega) (by omega) (by omega), by rw [upI_ne (by omega)]; exact e3, by rw [upI_ne (by omega)]; exact e4, by rw [upI_ne (by omega)]; exact e5⟩
theorem RL_w23 {M : AM} {B : Nat} {s s0 : Int → Int} (h : RL M B s s0) {i v : Int} (l : Lim s0) (h0 : 0 ≤ i) (h1 : i < 8) : RL (up2 M (B + 23) i v) B (upI s (6 + i) v) s0 := by
  obtain ⟨h, e3, e4, e5⟩ := h
  obtain ⟨l3, l4, l5⟩ := l
  exact ⟨RepS_w23 h h0 h1 (by omega) (by omega) (by omega), by rw [upI_ne (by omega)]; exact e3, by rw [upI_ne (by omega)]; exact e4, by rw [upI_ne (by omega)]; exact e5⟩
theorem RL_w17 {M : AM} {B : Nat} {s s0 : Int → Int} (h : RL M B s s0) {i v : Int} (l : Lim s0) (h0 : 0 ≤ i) (h1 : i ≤ 200) : RL (up2 M (B + 17) i v) B (upI s (542 + i) v) s0 := by
  obtain ⟨h, e3, e4, e5⟩ := h
  obtain ⟨l3, l4, l5⟩ := l
  exact ⟨RepS_w17 h h0 h1 (by omega) (by omega) (by omega), by rw [upI_ne (by omega)]; exact e3, by rw [upI_ne (by omega)]; exact e4, by rw [upI_ne (by omega)]; exact e5⟩
theorem RL_w3 {M : AM} {B : Nat} {s s0 : Int → Int} (h : RL M B s s0) {i v : Int} (l : Lim s0) (h0 : 0 ≤ i) (h1 : i < s0 3) : RL (up2 M (B + 3) i v) B (upI s (14 + i) v) s0 := by
  obtain ⟨h, e3, e4, e5⟩ := h
  obtain ⟨l3, l4, l5⟩ := l
  exact ⟨RepS_w3 h h0 (by omega) (by omega) (by omega) (by omega), by rw [upI_ne (by omega)]; exact e3, by rw [upI_ne (by omega)]; exact e4, by rw [upI_ne (by omega)]; exact e5⟩
theorem RL_w4 {M : AM} {B : Nat} {s s0 : Int → Int} (h : RL M B s s0) {i v : Int} (l : Lim s0) (h0 : 0 ≤ i) (h1 : i < s0 3) : RL (up2 M (B + 4) i v) B (upI s (94 + i) v) s0 := by
  obtain ⟨h, e3, e4, e5⟩ := h
  obtain ⟨l3, l4, l5⟩ := l
  exact ⟨RepS_w4 h h0 (by omega) (by omega) (by omega) (by omega), by rw [upI_ne (by omega)]; exact e3, by rw [upI_ne (by omega)]; exact e4, by rw [upI_ne (by omega)]; exact e5⟩
theorem RL_w5 {M : AM} {B : Nat} {s s0 : Int → Int} (h : RL M B s s0) {i v : Int} (l : Lim s0) (h0 : 0 ≤ i) (h1 : i < s0 3) : RL (up2 M (B + 5) i v) B (upI s (174 + i) v) s0 := by
  obtain ⟨h, e3, e4, e5⟩ := h
  obtain ⟨l3, l4, l5⟩ := l
  exact ⟨RepS_w5 h h0 (by omega) (by omega) (by omega) (by omega), by rw [upI_ne (by omega)]; exact e3, by rw [upI_ne (by omega)]; exact e4, by rw [upI_ne (by omega)]; exact e5⟩
theorem RL_w6 {M : AM} {B : Nat} {s s0 : Int → Int} (h : RL M B s s0) {i v : Int} (l : Lim s0) (h0 : 0 ≤ i) (h1 : i < s0 3) : RL (up2 M (B + 6) i v) B (upI s (254 + i) v) s0 := by
  obtain ⟨h, e3, e4, e5⟩ := h
  obtain ⟨l3, l4, l5⟩ := l
  exact ⟨RepS_w6 h h0 (by omega) (by omega) (by omega) (by omega), by rw [upI_ne (by omega)]; exact e3, by rw [upI_ne (by omega)]; exact e4, by rw [upI_ne (by omega)]; exact e5⟩
theorem RL_w7 {M : AM} {B : Nat} {s s0 : Int → Int} (h : RL M B s s0) {i v : Int} (l : Lim s0) (h0 : 0 ≤ i) (h1 : i < s0 3) : RL (up2 M (B + 7) i v) B (upI s (334 + i) v) s0 := by
  obtain ⟨h, e3, e4, e5⟩ := h
  obtain ⟨l3, l4, l5⟩ := l
  exact ⟨RepS_w7 h h0 (by omega) (by omega) (by omega) (by omega), by rw [upI_ne (by omega)]; exact e3, by rw [upI_ne (by omega)]; exact e4, by rw [upI_ne (by omega)]; exact e5⟩
theorem RL_w9 {M : AM} {B : Nat} {s s0 : Int → Int} (h : RL M B s s0) {i v : Int} (l : Lim s0) (h0 : 0 ≤ i) (h1 : i < s0 4) : RL (up2 M (B + 9) i v) B (upI s (414 + (8 * i)) v) s0 := by
  obtain ⟨h, e3, e4, e5⟩ := h
  obtain ⟨l3, l4, l5⟩ := l
  exact ⟨RepS_w9 h h0 (by omega) (by omega) (by omega) (by omega), by rw [upI_ne (by omega)]; exact e3, by rw [upI_ne (by omega)]; exact e4, by rw [upI_ne (by omega)]; exact e5⟩
theorem RL_w10 {M : AM} {B : Nat} {s s0 : Int → Int} (h : RL M B s s0) {i v : Int} (l : Lim s0) (h0 : 0 ≤ i) (h1 : i < s0 4) : RL (up2 M (B + 10) i v) B (upI s ((414 + (8 * i)) + 1) v) s0 := by
  obtain ⟨h, e3, e4, e5⟩ := h
  obtain ⟨l3, l4, l5⟩ := l
  exact ⟨RepS_w10 h h0 (by omega) (by omega) (by omega) (by omega), by rw [upI_ne (by omega)]; exact e3, by rw [upI_ne (by omega)]; exact e4, by rw [upI_ne (by omega)]; exact e5⟩
theorem RL_w11 {M : AM} {B : Nat} {s s0 : Int → Int} (h : RL M B s s0) {i v : Int} (l : Lim s0) (h0 : 0 ≤ i) (h1 : i < s0 4) : RL (up2 M (B + 11) i v) B (upI s ((414 + (8 * i)) + 2) v) s0 := by
  obtain ⟨h, e3, e4, e5⟩ := h
  obtain ⟨l3, l4, l5⟩ := l
  exact ⟨RepS_w11 h h0 (by omega) (by omega) (by omega) (by omega), by rw [upI_ne (by omega)]; exact e3, by rw [upI_ne (by omega)]; exact e4, by rw [upI_ne (by omega)]; exact e5⟩
theorem RL_w12 {M : AM} {B : Nat} {s s0 : Int → Int} (h : RL M B s s0) {i v : Int} (l : Lim s0) (h0 : 0 ≤ i) (h1 : i < s0 4) : RL (up2 M (B + 12) i v) B (upI s ((414 + (8 * i)) + 3) v) s0 := by
  obtain ⟨h, e3, e4, e5⟩ := h
  obtain ⟨l3, l4, l5⟩ := l
  exact ⟨RepS_w12 h h0 (by omega) (by omega) (by omega) (by omega), by rw [upI_ne (by omega)]; exact e3, by rw [upI_ne (by omega)]; exact e4, by rw [upI_ne (by omega)]; exact e5⟩
theorem RL_w13 {M : AM} {B : Nat} {s s0 : Int → Int} (h : RL M B s s0) {i v : Int} (l : Lim s0) (h0 : 0 ≤ i) (h1 : i < s0 4) : RL (up2 M (B + 13) i v) B (upI s ((414 + (8 * i)) + 4) v) s0 := by
  obtain ⟨h, e3, e4, e5⟩ := h
  obtain ⟨l3, l4, l5⟩ := l
  exact ⟨RepS_w13 h h0 (by omega) (by omega) (by omega) (by omega), by rw [upI_ne (by omega)]; exact e3, by rw [upI_ne (by omega)]; exact e4, by rw [upI_ne (by omega)]; exact e5⟩
theorem RL_w14 {M : AM} {B : Nat} {s s0 : Int → Int} (h : RL M B s s0) {i v : Int} (l : Lim s0) (h0 : 0 ≤ i) (h1 : i < s0 4) : RL (up2 M (B + 14) i v) B (upI s ((414 + (8 * i)) + 5) v) s0 := by
  obtain ⟨h, e3, e4, e5⟩ := h
  obtain ⟨l3, l4, l5⟩ := l
  exact ⟨RepS_w14 h h0 (by omega) (by omega) (by omega) (by omega), by rw [upI_ne (by omega)]; exact e3, by rw [upI_ne (by omega)]; exact e4, by rw [upI_ne (by omega)]; exact e5⟩
theorem RL_w15 {M : AM} {B : Nat} {s s0 : Int → Int} (h : RL M B s s0) {i v : Int} (l : Lim s0) (h0 : 0 ≤ i) (h1 : i < s0 4) : RL (up2 M (B + 15) i v) B (upI s ((414 + (8 * i)) + 6) v) s0 := by
  obtain ⟨h, e3, e4, e5⟩ := h
  obtain ⟨l3, l4, l5⟩ := l
  exact ⟨RepS_w15 h h0 (by omega) (by omega) (by omega) (by omega), by rw [upI_ne (by omega)]; exact e3, by rw [upI_ne (by omega)]; exact e4, by rw [upI_ne (by omega)]; exact e5⟩
theorem RL_w16 {M : AM} {B : Nat} {s s0 : Int → Int} (h : RL M B s s0) {i v : Int} (l : Lim s0) (h0 : 0 ≤ i) (h1 : i < s0 4) : RL (up2 M (B + 16) i v) B (upI s ((414 + (8 * i)) + 7) v) s0 := by
  obtain ⟨h, e3, e4, e5⟩ := h
  obtain ⟨l3, l4, l5⟩ := l
  exact ⟨RepS_w16 h h0 (by omega) (by omega) (by omega) (by omega), by rw [upI_ne (by omega)]; exact e3, by rw [upI_ne (by omega)]; exact e4, by rw [upI_ne (by omega)]; exact e5⟩
theorem RepS_ext {M : AM} {B : Nat} {s s' : Int → Int} (h : RepS M B s) (e : ∀ k, s k = s' k) : RepS M B s' := by
  rw [← show s = s' from funext e]
  exact h
/-- only the row's own numbers count -/
theorem RepS_congr {M : AM} {B : Nat} {s s' : Int → Int} (h : RepS M B s) (l : Lim s) (e : ∀ k, 0 ≤ k → k < 983 → s k = s' k) : RepS M B s' := by
  have e3 := e 3 (by omega) (by omega)
  have e4 := e 4 (by omega) (by omega)
  have e5 := e 5 (by omega) (by omega)
  obtain ⟨l3, l4, l5⟩ := l
  unfold RepS
  rw [← e3, ← e4, ← e5, ← e 0 (by omega) (by omega)]
  exact ⟨h.1, h.2.1, h.2.2.1, h.2.2.2.1, fun i h0 h1 => by rw [← e _ (by omega) (by omega)]; exact h.2.2.2.2.1 i h0 h1, fun i h0 h1 => by rw [← e _ (by omega) (by omega)]; exact h.2.2.2.2.2.1 i h0 h1, fun i h0 h1 => by rw [← e _ (by omega) (by omega)]; exact h.2.2.2.2.2.2.1 i h0 h1, fun w hw i h0 h1 => by rw [← e _ (by omega) (by omega)]; exact h.2.2.2.2.2.2.2.1 w hw i h0 h1, fun w hw i h0 h1 => by rw [← e _ (by omega) (by omega)]; exact h.2.2.2.2.2.2.2.2.1 w hw i h0 h1, fun w hw i h0 h1 => by rw [← e _ (by omega) (by omega)]; exact h.2.2.2.2.2.2.2.2.2 w hw i h0 h1⟩

