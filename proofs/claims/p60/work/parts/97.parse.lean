/-! WHAT A TEXT SAYS: words, numbers, lines -/
theorem run_to {p : Int → Bool} {by_ : Int → Int} {n e : Int} (he : e ≤ n) (hx : n ≤ e ∨ p (by_ e) = false) : ∀ (k : Nat) (a : Int), (e - a).toNat = k → a ≤ e → (∀ i : Int, a ≤ i → i < e → p (by_ i) = true) → run p by_ n a = e := by
  intro k
  induction k with
  | zero =>
    intro a h1 h2 _
    have h3 : a = e := by omega
    subst h3
    exact run_end hx
  | succ k ih =>
    intro a h1 h2 h3
    rw [run_go (by omega) (h3 a (Int.le_refl _) (by omega))]
    exact ih (a + 1) (by omega) (by omega) (fun i i0 i1 => h3 i (by omega) i1)
theorem run_eq {p : Int → Bool} {by_ : Int → Int} {n a e : Int} (h : a ≤ e) (he : e ≤ n) (hp : ∀ i : Int, a ≤ i → i < e → p (by_ i) = true) (hx : n ≤ e ∨ p (by_ e) = false) : run p by_ n a = e := run_to he hx _ a rfl h hp
theorem st_0 {by_ : Int → Int} {n a : Int} (h : by_ a ≠ 32) : stS by_ n a = a := run_end (Or.inr (pB_f h))
theorem st_n {by_ : Int → Int} {n : Int} : stS by_ n n = n := run_end (Or.inl (Int.le_refl _))
theorem st_1 {by_ : Int → Int} {n a : Int} (ha : a < n) (h : by_ a = 32) (h1 : by_ (a + 1) ≠ 32) : stS by_ n a = a + 1 := by
  unfold stS
  rw [run_go ha (pB_t h)]
  exact run_end (Or.inr (pB_f h1))
/-- the digits of a number -/
def Dg (by_ : Int → Int) (a v e : Int) : Prop := (0 ≤ v ∧ v ≤ 9 ∧ e = a + 1 ∧ by_ a = 48 + v) ∨ (10 ≤ v ∧ v ≤ 99 ∧ e = a + 2 ∧ by_ a = 48 + v / 10 ∧ by_ (a + 1) = 48 + v % 10)
theorem Dg.first {by_ : Int → Int} {a v e : Int} (h : Dg by_ a v e) : 48 ≤ by_ a ∧ by_ a ≤ 57 ∧ a < e ∧ e ≤ a + 2 ∧ 0 ≤ v := by
  rcases h with h | h <;> omega
theorem Dg.all {by_ : Int → Int} {a v e : Int} (h : Dg by_ a v e) (i : Int) (h0 : a ≤ i) (h1 : i < e) : pD (by_ i) = true := by
  rcases h with h | h
  · rw [show i = a by omega, h.2.2.2]; exact pD_t (by omega)
  · by_cases hi : i = a
    · rw [hi, h.2.2.2.1]; exact pD_t (by omega)
    · rw [show i = a + 1 by omega, h.2.2.2.2]; exact pD_t (by omega)
theorem numV_0 {by_ : Int → Int} {a : Int} : numV by_ a a = 0 := by
  unfold numV
  rw [show (a - a).toNat = 0 by omega]
  rfl
theorem num_tok {by_ : Int → Int} {n p a v e : Int} (hst : stS by_ n p = a) (h : Dg by_ a v e) (he : e ≤ n) (hx : n ≤ e ∨ by_ e = 32 ∨ by_ e = 59) : tyS by_ n p = 1 ∧ enS by_ n p = e ∧ vaS by_ n p = v := by
  have hf := h.first
  have hr : run pD by_ n a = e := run_eq (by omega) he (fun i i0 i1 => h.all i i0 i1) (by
    rcases hx with h1 | h1 | h1
    · exact Or.inl h1
    · exact Or.inr (by rw [h1]; rfl)
    · exact Or.inr (by rw [h1]; rfl))
  have hl : pL (by_ a) = false := pL_f (by omega)
  have hd : pD (by_ a) = true := pD_t (by omega)
  refine ⟨?_, ?_, ?_⟩
  · unfold tyS
    rw [hst, hl, hd, hr, if_neg (by omega), if_neg (by decide), if_pos rfl, if_pos (by omega)]
  · unfold enS
    rw [hst, hl, hd, hr, if_neg (by omega), if_neg (by decide), if_pos rfl]
  · unfold vaS
    rw [hst, hr]
    rcases h with h | h
    · rw [h.2.2.1, numV_step (Int.le_refl a), numV_0, h.2.2.2]; omega
    · rw [h.2.2.1, show a + 2 = a + 1 + 1 by omega, numV_step (show a ≤ a + 1 by omega), numV_step (Int.le_refl a), numV_0, h.2.2.2.1, h.2.2.2.2]; omega
theorem nu_yes {by_ : Int → Int} {n p v lo hi : Int} (h1 : tyS by_ n p = 1) (h2 : vaS by_ n p = v) (hv : lo ≤ v ∧ v ≤ hi) : ¬ (nuB by_ n lo hi p = 0) := by
  unfold nuB nuC
  rw [h1, h2, if_neg (show ¬ ((1 : Int) ≠ 1) by decide), if_pos hv, if_pos rfl]
  decide
theorem word_tok {by_ tx : Int → Int} {n p st m : Int} (hst : stS by_ n p = st) (hm : 1 ≤ m ∧ m ≤ 8) (hw : ∀ i : Int, 0 ≤ i → i < m → by_ (st + i) = tx i ∧ 97 ≤ tx i ∧ tx i ≤ 122) (he : st + m ≤ n) (hx : n ≤ st + m ∨ by_ (st + m) = 32) : tyS by_ n p = 0 ∧ enS by_ n p = st + m := by
  have h0 := hw 0 (by omega) (by omega)
  rw [Int.add_zero] at h0
  have hr : run pL by_ n st = st + m := run_eq (by omega) he (fun i i0 i1 => by
    have h := hw (i - st) (by omega) (by omega)
    rw [show st + (i - st) = i by omega] at h
    rw [h.1]
    exact pL_t h.2) (by
    rcases hx with h1 | h1
    · exact Or.inl h1
    · exact Or.inr (by rw [h1]; rfl))
  have hl : pL (by_ st) = true := by rw [h0.1]; exact pL_t h0.2
  constructor
  · unfold tyS
    rw [hst, hl, hr, if_neg (by omega), if_pos rfl, if_pos (by omega)]
  · unfold enS
    rw [hst, hl, hr, if_neg (by omega), if_pos rfl]
theorem wd_yes {by_ : Int → Int} {n p st : Int} {k m : Nat} (hst : stS by_ n p = st) (ht : tyS by_ n p = 0 ∧ enS by_ n p = st + m) (hw : ∀ i : Int, 0 ≤ i → i < m → by_ (st + i) = tw k i) : wdA by_ n k m p = 1 := by
  unfold wdA wdB
  rw [hst, ht.1, ht.2, if_pos ⟨rfl, by omega, eqW_t m hw⟩]
theorem wd_len {by_ : Int → Int} {n p st e : Int} {k m : Nat} (hst : stS by_ n p = st) (ht : enS by_ n p = e) (hm : e - st ≠ m) : wdA by_ n k m p = 0 := by
  unfold wdA wdB
  rw [hst, ht, if_neg (fun h => hm h.2.1)]
theorem wd_let {by_ : Int → Int} {n p st : Int} {k m : Nat} (hst : stS by_ n p = st) (hm : 1 ≤ m) (h : by_ st ≠ tw k 0) : wdA by_ n k m p = 0 := by
  unfold wdA wdB
  rw [hst, if_neg (fun hh => h (by
    have h9 := eqW_f m hh.2.2 0 (by omega) (by omega)
    rw [Int.add_zero] at h9
    exact h9))]
theorem sem_tok {by_ : Int → Int} {n a : Int} (h : a < n) (hb : by_ a = 59) : tyS by_ n a = 2 ∧ enS by_ n a = a + 1 := by
  have hst : stS by_ n a = a := st_0 (by omega)
  constructor
  · unfold tyS
    rw [hst, hb, if_neg (by omega), if_neg (by decide), if_neg (by decide), if_pos rfl]
  · unfold enS
    rw [hst, hb, if_neg (by omega), if_neg (by decide), if_neg (by decide)]
theorem end_tok {by_ : Int → Int} {n : Int} : tyS by_ n n = 3 ∧ enS by_ n n = n := by
  constructor
  · unfold tyS; rw [st_n, if_pos (Int.le_refl n)]
  · unfold enS; rw [st_n, if_pos (Int.le_refl n)]
/-- bytes that begin with a text -/
def AgT (by_ : Int → Int) (t : Tx) : Prop := ∀ i : Int, 0 ≤ i → i < t.1 → by_ i = t.2 i
theorem AgT.say {by_ : Int → Int} {t : Tx} {c : Int} (h0 : 0 ≤ t.1) (h : AgT by_ (say t c)) : AgT by_ t ∧ by_ t.1 = c := by
  constructor
  · intro i i0 i1
    rw [h i i0 (by show i < t.1 + 1; omega), say_in i1]
  · rw [h t.1 h0 (by show t.1 < t.1 + 1; omega), say_at]
theorem AgT.num {by_ : Int → Int} {t : Tx} {v : Int} (h0 : 0 ≤ t.1) (hv : 0 ≤ v ∧ v ≤ 99) (h : AgT by_ (sayN t v)) : AgT by_ t ∧ Dg by_ t.1 v (sayN t v).1 := by
  by_cases h1 : v ≤ 9
  · rw [sayN_in ⟨hv.1, h1⟩] at h ⊢
    obtain ⟨a, b⟩ := h.say h0
    exact ⟨a, Or.inl ⟨hv.1, h1, rfl, by omega⟩⟩
  · rw [sayN_2 ⟨by omega, hv.2⟩] at h ⊢
    obtain ⟨a, b⟩ := h.say (show 0 ≤ t.1 + 1 by omega)
    obtain ⟨c, d⟩ := a.say h0
    have b2 : by_ (t.1 + 1) = 48 + v % 10 := b
    exact ⟨c, Or.inr ⟨by omega, hv.2, by show t.1 + 1 + 1 = t.1 + 2; omega, d, b2⟩⟩
theorem AgT.wrd {by_ tx : Int → Int} {t : Tx} {n : Nat} (h0 : 0 ≤ t.1) (h : AgT by_ (sayW t tx n)) : AgT by_ t ∧ ∀ i : Int, 0 ≤ i → i < n → by_ (t.1 + i) = tx i := by
  constructor
  · intro i i0 i1
    rw [h i i0 (by rw [sayW_1]; omega), sayW_2, if_neg (by omega)]
  · intro i i0 i1
    rw [h (t.1 + i) (by omega) (by rw [sayW_1]; omega), sayW_2, if_pos (by omega), show t.1 + i - t.1 = i by omega]
/-- so far the text says a plan and a yard -/
def PI (t : Tx) (q s : Int → Int) : Prop := 0 ≤ t.1 ∧ ∀ (by_ : Int → Int) (n : Int), AgT by_ t → (n = t.1 ∨ (t.1 < n ∧ by_ t.1 = 59)) → ∃ f : Nat, (n - t.1).toNat + 1 ≤ f ∧ txtL by_ n zro = txtN by_ n f t.1 q s
theorem PI.fin {t : Tx} {q s : Int → Int} (h : PI t q s) {by_ : Int → Int} (ha : AgT by_ t) : txtL by_ t.1 zro = .inr (t.1, q, s) := by
  obtain ⟨f, hf, e⟩ := h.2 by_ t.1 ha (Or.inl rfl)
  obtain ⟨k, rfl⟩ : ∃ k : Nat, f = k + 1 := ⟨f - 1, by omega⟩
  rw [e, txtN, end_tok.1, end_tok.2, if_pos rfl]
/-- a line more -/
theorem PI.line {t t' : Tx} {q s q' s' : Int → Int} (h : PI t q s) (hl : t.1 < t'.1) (hp : ∀ by_ : Int → Int, AgT by_ t' → AgT by_ t ∧ by_ t.1 = 59) (hr : ∀ (by_ : Int → Int) (n : Int), AgT by_ t' → (n = t'.1 ∨ (t'.1 < n ∧ by_ t'.1 = 59)) → lineL by_ n q s (t.1 + 1) = .inr (t'.1, q', s')) : PI t' q' s' := by
  refine ⟨by have := h.1; omega, fun by_ n ha hn => ?_⟩
  obtain ⟨a1, a2⟩ := hp by_ ha
  obtain ⟨f, hf, e⟩ := h.2 by_ n a1 (Or.inr ⟨by omega, a2⟩)
  obtain ⟨k, rfl⟩ : ∃ k : Nat, f = k + 1 := ⟨f - 1, by omega⟩
  have ht := sem_tok (n := n) (by omega) a2
  refine ⟨k, by omega, ?_⟩
  rw [e, txtN, ht.1, ht.2, if_neg (by decide), if_neg (by decide), hr by_ n ha hn]
theorem nx_of {by_ : Int → Int} {t : Tx} {n : Int} (hn : n = t.1 ∨ (t.1 < n ∧ by_ t.1 = 59)) : t.1 ≤ n ∧ (n ≤ t.1 ∨ by_ t.1 = 32 ∨ by_ t.1 = 59) := by
  rcases hn with h | h
  · exact ⟨by omega, Or.inl (by omega)⟩
  · exact ⟨by omega, Or.inr (Or.inr h.2)⟩
/-- behind a word: a blank and a number -/
theorem bn_tok {by_ : Int → Int} {n p v e : Int} (hb : by_ p = 32) (h : Dg by_ (p + 1) v e) (he : e ≤ n) (hx : n ≤ e ∨ by_ e = 32 ∨ by_ e = 59) : tyS by_ n p = 1 ∧ enS by_ n p = e ∧ vaS by_ n p = v := by
  have hf := h.first
  exact num_tok (st_1 (by omega) hb (by omega)) h he hx
theorem lw_k {by_ : Int → Int} {n a m : Int} {k : Nat} {tx : Int → Int} (hm : 1 ≤ m ∧ m ≤ 8) (hw : ∀ i : Int, 0 ≤ i → i < m → by_ (a + i) = tx i ∧ 97 ≤ tx i ∧ tx i ≤ 122) (he : a + m ≤ n) (hx : by_ (a + m) = 32) : stS by_ n a = a ∧ tyS by_ n a = 0 ∧ enS by_ n a = a + m := by
  have h0 := hw 0 (by omega) (by omega)
  rw [Int.add_zero] at h0
  have hst : stS by_ n a = a := st_0 (by omega)
  exact ⟨hst, word_tok hst hm hw he (Or.inr hx)⟩
theorem r9_0 {q : Int → Int} {x y : Int} (h : ∀ k : Int, 0 ≤ k → k < q 0 → q (2 + k) ≠ x) : r9 q x y = 0 := by
  have key : ∀ n : Nat, (n : Int) ≤ q 0 ∨ n = 0 → itx (f9 q x y) 0 0 n = .inl 0 := by
    intro n
    induction n with
    | zero => exact fun _ => rfl
    | succ n ih =>
      intro hn
      rw [itx, ih (by omega)]
      show f9 q x y (0 + (n : Int)) 0 = _
      unfold f9
      rw [Int.zero_add, if_pos (h n (by omega) (by omega))]
  unfold r9
  rw [key (q 0).toNat (by omega)]
  rfl
