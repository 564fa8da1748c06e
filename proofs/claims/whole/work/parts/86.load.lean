/-! A TEXT IS READ, OR NOT; BYTES ARE PUT: what the two sides' memories hold then -/
def PX (n : Int) : LR → Prop
  | .inl e => 0 ≤ e.2 ∧ e.2 ≤ n
  | .inr x => 0 ≤ x.1 ∧ x.1 ≤ n
theorem PX_kind {by_ q s : Int → Int} {n w a : Int} (hw : 0 ≤ w ∧ w ≤ n) (ha : 0 ≤ a ∧ a ≤ n) : PX n (kindL by_ n q s w a) := by
  have r1 := en_rg (by_ := by_) ha
  have r2 := en_rg (by_ := by_) (n := n) (a := enS by_ n a) ⟨by omega, by omega⟩
  unfold kindL
  repeat' split
  all_goals (simp only [PX]; omega)
theorem PX_rods {by_ q s : Int → Int} {n w a : Int} (hw : 0 ≤ w ∧ w ≤ n) (ha : 0 ≤ a ∧ a ≤ n) : PX n (rodsL by_ n q s w a) := by
  have r1 := en_rg (by_ := by_) ha
  have r2 := en_rg (by_ := by_) (n := n) (a := enS by_ n a) ⟨by omega, by omega⟩
  unfold rodsL
  repeat' split
  all_goals (simp only [PX]; omega)
theorem PX_ord {by_ q s : Int → Int} {n w a : Int} (hw : 0 ≤ w ∧ w ≤ n) (ha : 0 ≤ a ∧ a ≤ n) : PX n (ordL by_ n q s w a) := by
  have r1 := en_rg (by_ := by_) ha
  have r2 := en_rg (by_ := by_) (n := n) (a := enS by_ n a) ⟨by omega, by omega⟩
  have r3 := en_rg (by_ := by_) (n := n) (a := enS by_ n (enS by_ n a)) ⟨by omega, by omega⟩
  have r4 := en_rg (by_ := by_) (n := n) (a := enS by_ n (enS by_ n (enS by_ n a))) ⟨by omega, by omega⟩
  unfold ordL
  repeat' split
  all_goals (simp only [PX]; omega)
theorem PX_ptnN {by_ s : Int → Int} {n : Int} : ∀ (k : Nat) (a : Int) (q : Int → Int), 0 ≤ a ∧ a ≤ n → PX n (ptnN by_ n s k a q) := by
  intro k
  induction k with
  | zero =>
    intro a q ha
    have r1 := en_rg (by_ := by_) ha
    have r2 := en_rg (by_ := by_) (n := n) (a := stS by_ n a) ⟨by omega, by omega⟩
    unfold ptnN
    repeat' split
    all_goals (simp only [PX]; omega)
  | succ k ih =>
    intro a q ha
    have r1 := en_rg (by_ := by_) ha
    have r2 := en_rg (by_ := by_) (n := n) (a := stS by_ n a) ⟨by omega, by omega⟩
    unfold ptnN
    split
    · simp only [PX]; omega
    · split
      · simp only [PX]; omega
      · exact ih _ _ ⟨by omega, by omega⟩
theorem PX_ptn {by_ q s : Int → Int} {n w a : Int} (hw : 0 ≤ w ∧ w ≤ n) (ha : 0 ≤ a ∧ a ≤ n) : PX n (ptnL by_ n q s w a) := by
  have r1 := en_rg (by_ := by_) ha
  unfold ptnL
  split
  · simp only [PX]; omega
  · split
    · simp only [PX]; omega
    · exact PX_ptnN _ _ _ ⟨by omega, by omega⟩
theorem PX_line {by_ q s : Int → Int} {n a : Int} (ha : 0 ≤ a ∧ a ≤ n) : PX n (lineL by_ n q s a) := by
  have r1 := en_rg (by_ := by_) ha
  unfold lineL
  split
  · exact PX_kind ⟨by omega, by omega⟩ ⟨by omega, by omega⟩
  · split
    · exact PX_rods ⟨by omega, by omega⟩ ⟨by omega, by omega⟩
    · split
      · exact PX_ord ⟨by omega, by omega⟩ ⟨by omega, by omega⟩
      · split
        · exact PX_ptn ⟨by omega, by omega⟩ ⟨by omega, by omega⟩
        · simp only [PX]; omega
theorem PX_txtN {by_ : Int → Int} {n : Int} : ∀ (k : Nat) (a : Int) (q s : Int → Int), 0 ≤ a ∧ a ≤ n → PX n (txtN by_ n k a q s) := by
  intro k
  induction k with
  | zero =>
    intro a q s ha
    have r1 := en_rg (by_ := by_) ha
    unfold txtN
    simp only [PX]; omega
  | succ k ih =>
    intro a q s ha
    have r1 := en_rg (by_ := by_) ha
    unfold txtN
    split
    · simp only [PX]; omega
    · split
      · simp only [PX]; omega
      · have h := PX_line (by_ := by_) (q := q) (s := s) (a := enS by_ n a) (n := n) ⟨by omega, by omega⟩
        split
        · next e he => rw [he] at h; exact h
        · next x hx => rw [hx] at h; exact ih _ _ _ h
theorem PX_hd {by_ q s : Int → Int} {n a : Int} (ha : 0 ≤ a ∧ a ≤ n) : PX n (hdL by_ n q s a) := by
  have r1 := en_rg (by_ := by_) ha
  have r2 := en_rg (by_ := by_) (n := n) (a := enS by_ n a) ⟨by omega, by omega⟩
  have r3 := en_rg (by_ := by_) (n := n) (a := enS by_ n (enS by_ n a)) ⟨by omega, by omega⟩
  have r4 := en_rg (by_ := by_) (n := n) (a := enS by_ n (enS by_ n (enS by_ n a))) ⟨by omega, by omega⟩
  have r5 := en_rg (by_ := by_) (n := n) (a := enS by_ n (enS by_ n (enS by_ n (enS by_ n a)))) ⟨by omega, by omega⟩
  unfold hdL
  repeat' split
  all_goals (simp only [PX]; omega)
theorem PX_txt {by_ z0 : Int → Int} {n : Int} (hn : 0 ≤ n) : PX n (txtL by_ n z0) := by
  unfold txtL
  have h := PX_hd (by_ := by_) (q := zro) (s := z0) (n := n) (a := 0) ⟨by omega, hn⟩
  split
  · next e he => rw [he] at h; exact h
  · next x hx => rw [hx] at h; exact PX_txtN _ _ _ _ h
theorem Z0_zro : Z0 zro := fun _ _ _ => rfl
theorem t67a {L m : Nat} {g : AG} {M : AM} {by_ : Int → Int} {n : Int} (hD : HD L m g) (hZ : InZ M 101 by_) (hn : 0 ≤ n ∧ n ≤ 700) (hWD : Wds g M 10 12 14 16 18 20 22) (hI : Idle M 114) :
    Ok 7 67 0 [aR 102, aI n, aU] [] g M (fun o g1 M9 => ∀ z0, Z0 z0 → o = .inl (some (aI (lrB (txtL by_ n z0)))) ∧ g1 = g ∧ LPt M9 102 103 114 (txtL by_ n z0) ∧ Idle M9 114 ∧ ∀ c : Nat, (c < 102 ∨ 138 ≤ c) → M9 c = M c) :=
  Ok.all zro Z0_zro (fun z hz => (t67 (HD_j hD) (HD_z hD) (HD_pp hD) (HD_pb hD) (by decide) hZ hn (by decide) hWD hI hz).mono (fun o g1 M9 h => ⟨h.1, h.2.1, h.2.2.1, h.2.2.2.1, fun c hc => h.2.2.2.2 c (by omega)⟩))
theorem t67E {L m : Nat} {g : AG} {M : AM} {by_ : Int → Int} {n ec ep : Int} (hD : HD L m g) (hZ : InZ M 101 by_) (hn : 0 ≤ n ∧ n ≤ 700) (hWD : Wds g M 10 12 14 16 18 20 22) (hI : Idle M 114) (hT : txtL by_ n zro = .inl (ec, ep)) :
    Ok 7 67 0 [aR 102, aI n, aU] [] g M (Rt (some (aI 0)) g (fun M9 => (M9 102 8 = ec ∧ M9 102 5 = ep) ∧ Idle M9 114 ∧ (∀ c : Nat, (c < 102 ∨ 138 ≤ c) → M9 c = M c) ∧ ∀ z0, Z0 z0 → txtL by_ n z0 = .inl (ec, ep))) := by
  refine (t67a hD hZ hn hWD hI).mono (fun o g1 M9 h => ?_)
  obtain ⟨h1, h2, h3, h4, h5⟩ := h zro Z0_zro
  rw [hT] at h1 h3
  refine ⟨h1, h2, h3, h4, h5, fun z0 hz => ?_⟩
  obtain ⟨k1, -, k3, -⟩ := h z0 hz
  rw [h1] at k1
  cases ht : txtL by_ n z0 with
  | inl e =>
    rw [ht] at k3
    have e1 : e.1 = ec := k3.1.symm.trans h3.1
    have e2 : e.2 = ep := k3.2.symm.trans h3.2
    rw [← e1, ← e2]
  | inr x =>
    rw [ht] at k1
    have k2 : (0 : Int) = 1 := Sum.inl.inj (Option.some.inj (Sum.inl.inj k1))
    omega
theorem t67S {L m : Nat} {g : AG} {M : AM} {by_ : Int → Int} {n : Int} {x : Int × (Int → Int) × (Int → Int)} (hD : HD L m g) (hZ : InZ M 101 by_) (hn : 0 ≤ n ∧ n ≤ 700) (hWD : Wds g M 10 12 14 16 18 20 22) (hI : Idle M 114) (hT : txtL by_ n zro = .inr x) :
    Ok 7 67 0 [aR 102, aI n, aU] [] g M (Rt (some (aI 1)) g (fun M9 => (RepP M9 103 x.2.1 ∧ RepS M9 114 x.2.2) ∧ Idle M9 114 ∧ (∀ c : Nat, (c < 102 ∨ 138 ≤ c) → M9 c = M c) ∧ ∀ z0, Z0 z0 → ∃ x', txtL by_ n z0 = .inr x' ∧ RepP M9 103 x'.2.1 ∧ RepS M9 114 x'.2.2)) := by
  refine (t67a hD hZ hn hWD hI).mono (fun o g1 M9 h => ?_)
  obtain ⟨h1, h2, h3, h4, h5⟩ := h zro Z0_zro
  rw [hT] at h1 h3
  refine ⟨h1, h2, h3, h4, h5, fun z0 hz => ?_⟩
  obtain ⟨k1, -, k3, -⟩ := h z0 hz
  rw [h1] at k1
  cases ht : txtL by_ n z0 with
  | inl e =>
    rw [ht] at k1
    have k2 : (1 : Int) = 0 := Sum.inl.inj (Option.some.inj (Sum.inl.inj k1))
    omega
  | inr x' =>
    rw [ht] at k3
    exact ⟨x', rfl, k3⟩
theorem Wd_of {L m : Nat} {g : AG} {M : AM} {xs : Nat → Int32} (hD : HD L m g) (hw : ∀ c : Nat, c < 100 → M c = am_M0 xs c) {j k c : Nat} {tx : Int → Int} (hj : j < 15) (hc : c = 10 + 2 * j) (hk : slen j = k) (h8 : k ≤ 8) (ht : ∀ i : Int, 0 ≤ i → i < k → (am_txt.getD j []).getD i.toNat 0 = tx i ∧ 0 ≤ tx i ∧ tx i < 128) : Wd g M c k tx := by
  subst hc
  refine ⟨hk ▸ HD_w15 hD j hj, h8, fun i i0 i1 => ⟨?_, (ht i i0 i1).2⟩⟩
  rw [hw _ (by omega)]
  show (if 10 + 2 * j + 1 = 1 then _ else _) = _
  rw [if_neg (by omega), show (10 + 2 * j + 1 - 11) / 2 = j by omega]
  exact (ht i i0 i1).1
theorem tx4 {f h : Int → Int} {m : Nat} (hm : m ≤ 7) (k : ∀ i : Nat, i < 7 → i < m → f (i : Int) = h (i : Int) ∧ 0 ≤ h (i : Int) ∧ h (i : Int) < 128) : ∀ i : Int, 0 ≤ i → i < m → f i = h i ∧ 0 ≤ h i ∧ h i < 128 := fun i i0 i1 => by
  have e := k i.toNat (by omega) (by omega)
  rw [Int.toNat_of_nonneg i0] at e
  exact e
theorem WD_of {L m : Nat} {g : AG} {M : AM} {xs : Nat → Int32} (hD : HD L m g) (hw : ∀ c : Nat, c < 100 → M c = am_M0 xs c) : Wds g M 10 12 14 16 18 20 22 :=
  ⟨Wd_of hD hw (j := 0) (by decide) (by decide) (by decide) (by decide) (tx4 (f := fun i => (am_txt.getD 0 []).getD i.toNat 0) (by decide) (by decide)),
   Wd_of hD hw (j := 1) (by decide) (by decide) (by decide) (by decide) (tx4 (f := fun i => (am_txt.getD 1 []).getD i.toNat 0) (by decide) (by decide)),
   Wd_of hD hw (j := 2) (by decide) (by decide) (by decide) (by decide) (tx4 (f := fun i => (am_txt.getD 2 []).getD i.toNat 0) (by decide) (by decide)),
   Wd_of hD hw (j := 3) (by decide) (by decide) (by decide) (by decide) (tx4 (f := fun i => (am_txt.getD 3 []).getD i.toNat 0) (by decide) (by decide)),
   Wd_of hD hw (j := 4) (by decide) (by decide) (by decide) (by decide) (tx4 (f := fun i => (am_txt.getD 4 []).getD i.toNat 0) (by decide) (by decide)),
   Wd_of hD hw (j := 5) (by decide) (by decide) (by decide) (by decide) (tx4 (f := fun i => (am_txt.getD 5 []).getD i.toNat 0) (by decide) (by decide)),
   Wd_of hD hw (j := 6) (by decide) (by decide) (by decide) (by decide) (tx4 (f := fun i => (am_txt.getD 6 []).getD i.toNat 0) (by decide) (by decide))⟩
theorem WR_of {L m : Nat} {g : AG} {M : AM} {xs : Nat → Int32} (hD : HD L m g) (hw : ∀ c : Nat, c < 100 → M c = am_M0 xs c) : WdsR g M :=
  ⟨Wd_of hD hw (j := 8) (by decide) (by decide) (by decide) (by decide) (tx4 (f := fun i => (am_txt.getD 8 []).getD i.toNat 0) (by decide) (by decide)),
   Wd_of hD hw (j := 9) (by decide) (by decide) (by decide) (by decide) (tx4 (f := fun i => (am_txt.getD 9 []).getD i.toNat 0) (by decide) (by decide)),
   Wd_of hD hw (j := 10) (by decide) (by decide) (by decide) (by decide) (tx4 (f := fun i => (am_txt.getD 10 []).getD i.toNat 0) (by decide) (by decide)),
   Wd_of hD hw (j := 11) (by decide) (by decide) (by decide) (by decide) (tx4 (f := fun i => (am_txt.getD 11 []).getD i.toNat 0) (by decide) (by decide)),
   Wd_of hD hw (j := 12) (by decide) (by decide) (by decide) (by decide) (tx4 (f := fun i => (am_txt.getD 12 []).getD i.toNat 0) (by decide) (by decide)),
   Wd_of hD hw (j := 13) (by decide) (by decide) (by decide) (by decide) (tx4 (f := fun i => (am_txt.getD 13 []).getD i.toNat 0) (by decide) (by decide)),
   Wd_of hD hw (j := 14) (by decide) (by decide) (by decide) (by decide) (tx4 (f := fun i => (am_txt.getD 14 []).getD i.toNat 0) (by decide) (by decide))⟩
theorem Inv_loadE {xs : Nat → Int32} {b : Int} {M M9 : AM} (hI : Inv xs b M) (e100 : ∀ y : Int, y ≠ 1 → y ≠ 3 → y ≠ 4 → y ≠ 5 → M9 100 y = M 100 y) (v1 : M9 100 1 = 0) (w1 : M9 448 13 = 0) (v3 : M9 448 14 = M9 100 3 ∧ 0 ≤ M9 100 3 ∧ M9 100 3 ≤ 4) (v4 : M9 448 15 = M9 100 4 ∧ -1 ≤ M9 100 4 ∧ M9 100 4 ≤ 700) (v5 : M9 448 16 = M9 100 5 ∧ -1 ≤ M9 100 5 ∧ M9 100 5 ≤ 700)
    (eo : ∀ y : Int, y ≠ 0 → y ≠ 13 → y ≠ 14 → y ≠ 15 → y ≠ 16 → (y < 17 ∨ y = 35) → M9 448 y = M 448 y) (hId : Idle M9 114) (ec : ∀ c : Nat, c ≠ 100 → c ≠ 448 → (c < 102 ∨ 138 ≤ c) → (c < 457 ∨ 461 < c) → M9 c = M c) : Inv xs b M9 := by
  obtain ⟨⟨h1, ⟨bu, by_, -, -, -, h5, h6⟩, -, -, -, -, t, ht1, ht2, ht3⟩, g1, g2, q, g3, ⟨nx, sz, g4, g5⟩, g6⟩ := hI
  have e6 : M9 100 6 = M 100 6 := e100 6 (by omega) (by omega) (by omega) (by omega)
  have e202 := ec 202 (by omega) (by omega) (by omega) (by omega)
  have e454 := ec 454 (by omega) (by omega) (by omega) (by omega)
  refine ⟨⟨fun c hc => (ec c (by omega) (by omega) (by omega) (by omega)).trans (h1 c hc), ⟨0, by_, v1, w1, by omega, fun i i0 i1 => by rw [ec 101 (by omega) (by omega) (by omega) (by omega)]; exact h5 i i0 i1, fun i i0 i1 => by rw [ec (448 + 8) (by omega) (by omega) (by omega) (by omega)]; exact h6 i i0 i1⟩, v3, v4, v5, hId, t, RepT_fr ht1 (ec _ (by omega) (by omega) (by omega) (by omega)) (ec _ (by omega) (by omega) (by omega) (by omega)), ?_, ht3⟩, ?_⟩
  · obtain ⟨r1, r2, r3⟩ := ht2
    exact ⟨by rw [eo 35 (by omega) (by omega) (by omega) (by omega) (by omega) (by omega)]; exact r1, r2, fun i i0 i1 => by rw [ec (448 + 15) (by omega) (by omega) (by omega) (by omega)]; exact r3 i i0 i1⟩
  refine ⟨by rw [e6, eo 1 (by omega) (by omega) (by omega) (by omega) (by omega) (by omega)]; exact g1, by rw [e6]; exact g2, q, fun hlo => ?_, ⟨nx, sz, Hst_fr g4 (by rw [e202]) (by rw [e202]) (eo 10 (by omega) (by omega) (by omega) (by omega) (by omega) (by omega)) (fun a a0 a1 => ec a (by omega) (by omega) (by omega) (by omega)) (fun y _ => by rw [e454]), fun hl0 => g5 (by rw [e6] at hl0; exact hl0)⟩, Slt_fr g6 (ec _ (by omega) (by omega) (by omega) (by omega)) (ec _ (by omega) (by omega) (by omega) (by omega)) e6 (fun a a0 a1 => ec a (by omega) (by omega) (by omega) (by omega)) (fun y _ => by rw [e454])⟩
  obtain ⟨s, k1, k2, k3, k4⟩ := g3 (by rw [e6] at hlo; exact hlo)
  exact ⟨s, RepP.fr k1 (fun a a0 a1 => ec a (by omega) (by omega) (by omega) (by omega)), RepS.fr k2 (fun a a0 a1 => ec a (by omega) (by omega) (by omega) (by omega)), RepO.fr k3 ⟨eo 2 (by omega) (by omega) (by omega) (by omega) (by omega) (by omega), eo 3 (by omega) (by omega) (by omega) (by omega) (by omega) (by omega)⟩ (fun a a0 a1 => ec a (by omega) (by omega) (by omega) (by omega)), k4⟩
theorem Inv_loadS {xs : Nat → Int32} {b : Int} {M M9 : AM} {q s : Int → Int} (hI : Inv xs b M) (hb : 0 ≤ b ∧ b ≤ 1000000) (v1 : M9 100 1 = 0) (w1 : M9 448 13 = 0) (v3 : M9 100 3 = 0 ∧ M9 448 14 = 0) (v4 : M9 100 4 = -1 ∧ M9 448 15 = -1) (v5 : M9 100 5 = -1 ∧ M9 448 16 = -1) (v6 : M9 100 6 = 1 ∧ M9 448 1 = 1) (n1 : M9 202 1 = M 202 1) (n2 : M9 202 2 = 0 ∧ M9 448 10 = 0) (u0 : M9 445 0 = 0 ∧ M9 445 1 = 0) (u1 : M9 455 0 = 0 ∧ M9 455 1 = 0)
    (eo : M9 448 35 = M 448 35) (hId : Idle M9 114) (ec : ∀ c : Nat, (c < 100 ∨ c = 101 ∨ c = 446 ∨ c = 447 ∨ c = 456 ∨ c = 463) → M9 c = M c)
    (hP : RepP M9 138 q) (hR : RepS M9 149 s) (hV : Val 0 q s) (h40 : s 3 ≤ 40) (o2 : M9 448 2 = q 0) (o3 : M9 448 3 = q 1) (oa : ∀ i : Int, 0 ≤ i → i < q 0 → M9 449 i = q (2 + i)) (ob : ∀ i : Int, 0 ≤ i → i < q 0 → M9 450 i = q (6 + i)) (oc : ∀ i : Int, 0 ≤ i → i < q 1 → M9 451 i = q (10 + i)) (od : ∀ w : Nat, w < 6 → (w : Int) < q 1 → ∀ i : Int, 0 ≤ i → i < q (10 + w) → M9 452 (6 * w + i) = q (16 + (6 * w + i))) (oe : ∀ j : Int, 0 ≤ j → j < 983 → M9 453 j = s j) : Inv xs b M9 := by
  obtain ⟨⟨h1, ⟨bu, by_, -, -, -, h5, h6⟩, -, -, -, -, t, ht1, ht2, ht3⟩, g1, g2, q0, g3, ⟨nx, sz, g4, g5⟩, g6⟩ := hI
  have c0 : ∀ k : Int, 0 ≤ k → k < 983 → s k = M9 453 k := fun k k0 k1 => (oe k k0 k1).symm
  refine ⟨⟨fun c hc => (ec c (by omega)).trans (h1 c hc), ⟨0, by_, v1, w1, by omega, fun i i0 i1 => by rw [ec 101 (by omega)]; exact h5 i i0 i1, fun i i0 i1 => by rw [ec (448 + 8) (by omega)]; exact h6 i i0 i1⟩, by rw [v3.1]; exact ⟨v3.2, by omega, by omega⟩, by rw [v4.1]; exact ⟨v4.2, by omega, by omega⟩, by rw [v5.1]; exact ⟨v5.2, by omega, by omega⟩, hId, t, RepT_fr ht1 (ec _ (by omega)) (ec _ (by omega)), ?_, ht3⟩, ?_⟩
  · obtain ⟨r1, r2, r3⟩ := ht2
    exact ⟨by rw [eo]; exact r1, r2, fun i i0 i1 => by rw [ec (448 + 15) (by omega)]; exact r3 i i0 i1⟩
  refine ⟨by rw [v6.1]; exact v6.2, Or.inr v6.1, q, fun _ => ⟨M9 453, hP, RepS_congr hR (V_lim hV) c0, ⟨rfl, o2, o3, oa, ob, oc, od⟩, V_mono (Val_congr hV c0) hb, V_q hV, by rw [← c0 3 (by omega) (by omega)]; exact h40⟩, ⟨nx, 0, Hst_0 (n1.trans g4.1.1) g4.1.2 n2.1 n2.2, fun _ => rfl⟩, fun i hi => ?_⟩
  rcases (show i = 0 ∨ i = 1 by omega) with rfl | rfl
  · exact ⟨u1.1.trans u0.1.symm, Or.inl u0.1⟩
  · exact ⟨u1.2.trans u0.2.symm, Or.inl u0.2⟩
/-! bytes -/
def relB (f h : Int → Int) : Prop := ∀ i : Int, 0 ≤ i → i < 700 → h i = f i % 256 ∧ -128 ≤ f i ∧ f i < 128
theorem relB_up {f h : Int → Int} {k c r : Int} (hr : relB f h) (hc : r = c % 256 ∧ -128 ≤ c ∧ c < 128) : relB (upI f k c) (upI h k r) := fun i i0 i1 => by
  unfold upI
  by_cases hi : i = k
  · rw [if_pos hi, if_pos hi]; exact hc
  · rw [if_neg hi, if_neg hi]; exact hr i i0 i1
theorem Inv_append {xs : Nat → Int32} {b : Int} {M M9 : AM} (hI : Inv xs b M) (v1 : M9 448 13 = M9 100 1 ∧ 0 ≤ M9 100 1 ∧ M9 100 1 ≤ 700) (e1 : ∀ y : Int, y ≠ 1 → M9 100 y = M 100 y) (eo : ∀ y : Int, y ≠ 0 → y ≠ 13 → M9 448 y = M 448 y) (ec : ∀ c : Nat, c ≠ 100 → c ≠ 101 → c ≠ 448 → c ≠ 456 → M9 c = M c) (hB : relB (M9 101) (M9 456)) : Inv xs b M9 := by
  obtain ⟨⟨h1, -, h7, h8, h9, h10, t, ht1, ht2, ht3⟩, g1, g2, q, g3, ⟨nx, sz, g4, g5⟩, g6⟩ := hI
  have e6 : M9 100 6 = M 100 6 := e1 6 (by omega)
  have e202 := ec 202 (by omega) (by omega) (by omega) (by omega)
  have e454 := ec 454 (by omega) (by omega) (by omega) (by omega)
  refine ⟨⟨fun c hc => (ec c (by omega) (by omega) (by omega) (by omega)).trans (h1 c hc), ⟨M9 100 1, M9 101, rfl, v1.1, v1.2, fun i i0 i1 => ⟨rfl, (hB i i0 i1).2⟩, fun i i0 i1 => ⟨(hB i i0 i1).1, (hB i i0 i1).2⟩⟩, by rw [eo 14 (by omega) (by omega), e1 3 (by omega)]; exact h7, by rw [eo 15 (by omega) (by omega), e1 4 (by omega)]; exact h8, by rw [eo 16 (by omega) (by omega), e1 5 (by omega)]; exact h9, Idle_fr h10 (fun a a0 a1 _ => ec a (by omega) (by omega) (by omega) (by omega)), t, RepT_fr ht1 (ec _ (by omega) (by omega) (by omega) (by omega)) (ec _ (by omega) (by omega) (by omega) (by omega)), ?_, ht3⟩, ?_⟩
  · obtain ⟨r1, r2, r3⟩ := ht2
    exact ⟨by rw [eo 35 (by omega) (by omega)]; exact r1, r2, fun i i0 i1 => by rw [ec (448 + 15) (by omega) (by omega) (by omega) (by omega)]; exact r3 i i0 i1⟩
  refine ⟨by rw [e6, eo 1 (by omega) (by omega)]; exact g1, by rw [e6]; exact g2, q, fun hlo => ?_, ⟨nx, sz, Hst_fr g4 (by rw [e202]) (by rw [e202]) (eo 10 (by omega) (by omega)) (fun a a0 a1 => ec a (by omega) (by omega) (by omega) (by omega)) (fun y _ => by rw [e454]), fun hl0 => g5 (by rw [e6] at hl0; exact hl0)⟩, Slt_fr g6 (ec _ (by omega) (by omega) (by omega) (by omega)) (ec _ (by omega) (by omega) (by omega) (by omega)) e6 (fun a a0 a1 => ec a (by omega) (by omega) (by omega) (by omega)) (fun y _ => by rw [e454])⟩
  obtain ⟨s, k1, k2, k3, k4⟩ := g3 (by rw [e6] at hlo; exact hlo)
  exact ⟨s, RepP.fr k1 (fun a a0 a1 => ec a (by omega) (by omega) (by omega) (by omega)), RepS.fr k2 (fun a a0 a1 => ec a (by omega) (by omega) (by omega) (by omega)), RepO.fr k3 ⟨eo 2 (by omega) (by omega), eo 3 (by omega) (by omega)⟩ (fun a a0 a1 => ec a (by omega) (by omega) (by omega) (by omega)), k4⟩
