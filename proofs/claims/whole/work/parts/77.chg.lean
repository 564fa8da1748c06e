/-! CHANGES: what is kept, what is changed, on both sides -/
def nxt (nx : Int) : Int := if nx = 7 then 0 else nx + 1
def prv (nx : Int) : Int := if nx = 0 then 7 else nx - 1
def hst (f s : Int → Int) (sz : Int) : Int → Int := if sz = 8 then cpI (cpI f (fun y => f (y + 1966)) 983 6881) s (983 * 8) 983 else cpI f s (983 * (1 + sz)) 983
theorem hst_old {f s : Int → Int} {sz j y : Int} (hz : 0 ≤ sz ∧ sz < 8) (hj : 0 ≤ j ∧ j < sz) (hy : 0 ≤ y ∧ y < 983) : hst f s sz (983 * (1 + j) + y) = f (983 * (1 + j) + y) := by
  unfold hst
  rw [if_neg (by omega), cpI_out (by omega)]
theorem hst_sh {f s : Int → Int} {j y : Int} (hj : 0 ≤ j ∧ j < 7) (hy : 0 ≤ y ∧ y < 983) : hst f s 8 (983 * (1 + j) + y) = f (983 * (1 + (j + 1)) + y) := by
  unfold hst
  rw [if_pos rfl, cpI_out (by omega), cpI_in (by omega)]
  show f (983 * (1 + j) + y - 983 + 1966) = _
  congr 1
  omega
theorem hst_new {f s : Int → Int} {sz y : Int} (hz : 0 ≤ sz ∧ sz ≤ 8) (hy : 0 ≤ y ∧ y < 983) : hst f s sz (983 * (1 + (min (sz + 1) 8 - 1)) + y) = s y := by
  unfold hst
  by_cases h : sz = 8
  · rw [if_pos h, cpI_in (by omega)]
    congr 1
    omega
  · rw [if_neg h, cpI_in (by omega)]
    congr 1
    omega
theorem hst_hi {f s : Int → Int} {sz k y : Int} (hz : 0 ≤ sz ∧ sz ≤ 8) (hk : 9 ≤ k) (hy : 0 ≤ y ∧ y < 983) : hst f s sz (983 * k + y) = f (983 * k + y) := by
  unfold hst
  by_cases h : sz = 8
  · rw [if_pos h, cpI_out (by omega), cpI_out (by omega)]
  · rw [if_neg h, cpI_out (by omega)]
theorem Hst_push {b : Int} {M M9 : AM} {q s : Int → Int} {nx sz : Int} (h : Hst b M q nx sz) (hV : Val b q s) (h40 : s 3 ≤ 40) (c1 : M9 202 1 = nxt nx) (c2 : M9 202 2 = min (sz + 1) 8) (c3 : RepS M9 (204 + 24 * nx.toNat) s)
    (c4 : ∀ a : Nat, 204 ≤ a → a < 396 → (a < 204 + 24 * nx.toNat ∨ 228 + 24 * nx.toNat ≤ a) → M9 a = M a) (c5 : M9 448 10 = min (sz + 1) 8) (c6 : M9 454 = hst (M 454) s sz) : Hst b M9 q (nxt nx) (min (sz + 1) 8) := by
  obtain ⟨⟨h1, h2, h2'⟩, ⟨h3, h4, h4'⟩, h5, h6⟩ := h
  refine ⟨⟨c1, by unfold nxt; split <;> omega, by unfold nxt; split <;> omega⟩, ⟨c2, by omega, by omega⟩, c5, fun j j0 j1 => ?_⟩
  have en : (nxt nx - min (sz + 1) 8 + j) % 8 = (nx - (min (sz + 1) 8 - 1) + j) % 8 := by unfold nxt; split <;> omega
  rw [en]
  by_cases hj : j = min (sz + 1) 8 - 1
  · have e : (nx - (min (sz + 1) 8 - 1) + j) % 8 = nx := by omega
    rw [e]
    refine ⟨s, c3, fun y y0 y1 => ?_, hV, h40⟩
    rw [c6, hj]
    exact hst_new ⟨h4, h4'⟩ ⟨y0, y1⟩
  · by_cases hz : sz = 8
    · obtain ⟨t, r1, r2, r3⟩ := h6 (j + 1) (by omega) (by omega)
      have e : (nx - (min (sz + 1) 8 - 1) + j) % 8 = (nx - sz + (j + 1)) % 8 := by omega
      rw [e]
      refine ⟨t, RepS.fr r1 (fun a a0 a1 => c4 a (by omega) (by omega) (by omega)), fun y y0 y1 => ?_, r3⟩
      rw [c6, hz, hst_sh (by omega) ⟨y0, y1⟩]
      exact r2 y y0 y1
    · obtain ⟨t, r1, r2, r3⟩ := h6 j j0 (by omega)
      have e : (nx - (min (sz + 1) 8 - 1) + j) % 8 = (nx - sz + j) % 8 := by omega
      rw [e]
      refine ⟨t, RepS.fr r1 (fun a a0 a1 => c4 a (by omega) (by omega) (by omega)), fun y y0 y1 => ?_, r3⟩
      rw [c6, hst_old (by omega) (by omega) ⟨y0, y1⟩]
      exact r2 y y0 y1
/-- the class keeps a copy -/
def KC (M M9 : AM) (s : Int → Int) (nx sz : Int) : Prop := RepS M9 (204 + 24 * nx.toNat) s ∧ M9 202 1 = nxt nx ∧ M9 202 2 = min (sz + 1) 8 ∧ ∀ c : Nat, c ≠ 202 → (c < 204 + 24 * nx.toNat ∨ 228 + 24 * nx.toNat ≤ c) → M9 c = M c
/-- the reference keeps a copy -/
def KR (M M9 : AM) (sz : Int) : Prop := (∀ c : Nat, c ≠ 448 ∧ c ≠ 454 → M9 c = M c) ∧ (∀ y : Int, y ≠ 10 → M9 448 y = M 448 y) ∧ M9 448 10 = min (sz + 1) 8 ∧ M9 454 = hst (M 454) (M 453) sz
theorem t267k {g : AG} {M : AM} {sz : Int} (hSO : ShModel g 448) (hc : M 448 10 = sz) (hz : 0 ≤ sz ∧ sz ≤ 8) : Ok 1 267 0 [aR 448, aU] [] g M (Rt none g (fun M9 => KR M M9 sz)) := by
  by_cases h : sz = 8
  · refine (t267f hSO (by rw [hc]; exact h)).mono (fun o g1 M9 k => ?_)
    obtain ⟨k0, k00, k1, k2, k3, k4⟩ := k
    refine ⟨k0, k00, k1, k2, by rw [k3]; omega, ?_⟩
    unfold hst
    rw [if_pos h]
    exact k4
  · refine (t267n hSO hc (by omega)).mono (fun o g1 M9 k => ?_)
    obtain ⟨k0, k00, k1, k2, k3, k4⟩ := k
    refine ⟨k0, k00, k1, k2, by rw [k3]; omega, ?_⟩
    unfold hst
    rw [if_neg h]
    exact k4
def C2 (M M2 : AM) (s s' : Int → Int) (nx sz : Int) : Prop := RepS M2 (204 + 24 * nx.toNat) s ∧ M2 202 1 = nxt nx ∧ M2 202 2 = min (sz + 1) 8 ∧ RepS M2 149 s' ∧ ∀ c : Nat, c ≠ 202 → (c < 149 ∨ 173 ≤ c) → (c < 204 + 24 * nx.toNat ∨ 228 + 24 * nx.toNat ≤ c) → M2 c = M c
theorem C2_of {M M1 M2 : AM} {s s' : Int → Int} {nx sz : Int} (hn : 0 ≤ nx ∧ nx < 8) (h : KC M M1 s nx sz) (hR : RepS M2 149 s') (hW : Wr 149 24 M1 M2) : C2 M M2 s s' nx sz := by
  obtain ⟨h1, h2, h3, h4⟩ := h
  exact ⟨RepS.fr h1 (fun a a0 a1 => hW a (by omega)), by rw [hW _ (by omega)]; exact h2, by rw [hW _ (by omega)]; exact h3, hR, fun c c1 c2 c3 => (hW c (by omega)).trans (h4 c c1 c3)⟩
def C3 (M M3 : AM) (s s' : Int → Int) (nx sz : Int) : Prop := (RepS M3 (204 + 24 * nx.toNat) s ∧ M3 202 1 = nxt nx ∧ M3 202 2 = min (sz + 1) 8 ∧ RepS M3 149 s' ∧ M3 448 10 = min (sz + 1) 8 ∧ M3 454 = hst (M 454) s sz) ∧ (∀ c : Nat, c ≠ 202 → c ≠ 448 → c ≠ 454 → c ≠ 464 → (c < 149 ∨ 173 ≤ c) → (c < 204 + 24 * nx.toNat ∨ 228 + 24 * nx.toNat ≤ c) → M3 c = M c) ∧ ∀ y : Int, y ≠ 0 → y ≠ 10 → M3 448 y = M 448 y
theorem C3_of {M M2 M3 : AM} {s s' : Int → Int} {nx sz r z : Int} (hn : 0 ≤ nx ∧ nx < 8) (h0 : M 453 = s) (h : C2 M M2 s s' nx sz) (k : KR (up2 (up2 M2 464 0 r) 448 0 z) M3 sz) : C3 M M3 s s' nx sz := by
  obtain ⟨h1, h2, h3, h4, h5⟩ := h
  obtain ⟨k1, k2, k3, k4⟩ := k
  have e : ∀ c : Nat, c ≠ 448 → c ≠ 454 → c ≠ 464 → M3 c = M2 c := fun c c1 c2 c3 => by rw [k1 c ⟨c1, c2⟩, up2_na c1, up2_na c3]
  refine ⟨⟨RepS.fr h1 (fun a a0 a1 => e a (by omega) (by omega) (by omega)), by rw [e 202 (by omega) (by omega) (by omega)]; exact h2, by rw [e 202 (by omega) (by omega) (by omega)]; exact h3, RepS.fr h4 (fun a a0 a1 => e a (by omega) (by omega) (by omega)), k3, ?_⟩, fun c c1 c2 c3 c4 c5 c6 => (e c c2 c3 c4).trans (h5 c c1 c5 c6), fun y y0 y1 => ?_⟩
  · rw [k4, up2_na (by omega), up2_na (by omega), up2_na (by omega), up2_na (by omega), h5 454 (by omega) (by omega) (by omega), h5 453 (by omega) (by omega) (by omega), h0]
  · rw [k2 y y1, up2_rd, if_neg (by omega), up2_na (by omega), h5 448 (by omega) (by omega) (by omega)]
theorem Slt_chg {b : Int} {M M9 : AM} {q : Int → Int} {f : Int → Int} {sz : Int} (h : Slt b M q) (hz : 0 ≤ sz ∧ sz ≤ 8) (e1 : M9 455 = M 455) (e2 : M9 445 = M 445) (e3 : M9 100 6 = M 100 6) (e4 : ∀ a : Nat, 397 ≤ a → a < 445 → M9 a = M a) (e5 : M9 454 = hst (M 454) f sz) : Slt b M9 q := by
  intro i hi
  rw [e1, e2, e3]
  obtain ⟨h1, h2⟩ := h i hi
  refine ⟨h1, h2.imp id (fun h3 => ?_)⟩
  obtain ⟨g1, g2, s, r1, r2, r3⟩ := h3
  exact ⟨g1, g2, s, RepS.fr r1 (fun a a0 a1 => e4 a (by omega) (by omega)), fun y y0 y1 => by rw [e5, hst_hi hz (by omega) ⟨y0, y1⟩]; exact r2 y y0 y1, r3⟩
theorem Inv_chg {xs : Nat → Int32} {b b' : Int} {M M3 M9 : AM} {q s s' : Int → Int} {nx sz : Int} (hI : Inv xs b M) (hl : M 100 6 = 1) (hC : Core b M q s) (hH : Hst b M q nx sz) (hS : Slt b M q) (hb : b ≤ b' ∧ b' ≤ 1000000) (h : C3 M M3 s s' nx sz) (e : M9 = upM M3 (448 + 5) s') (hV' : Val b' q s') (h40' : s' 3 ≤ 40) : Inv xs b' M9 := by
  obtain ⟨hP, hB, hO, hV, hQ, h40⟩ := hC
  obtain ⟨⟨h1, h2, h3, h4, h5, h6⟩, hf, hy⟩ := h
  have hn := hH.1.2
  have hz := hH.2.1.2
  have ec : ∀ c : Nat, c ≠ 202 → c ≠ 448 → c ≠ 453 → c ≠ 454 → c ≠ 464 → (c < 149 ∨ 173 ≤ c) → (c < 204 + 24 * nx.toNat ∨ 228 + 24 * nx.toNat ≤ c) → M9 c = M c := fun c c1 c2 c3 c4 c5 c6 c7 => by rw [e, upM_na c3]; exact hf c c1 c2 c4 c5 c6 c7
  have e9 : ∀ c : Nat, c ≠ 453 → M9 c = M3 c := fun c c3 => by rw [e, upM_na c3]
  have ey : ∀ y : Int, y ≠ 0 → y ≠ 10 → M9 448 y = M 448 y := fun y y0 y1 => by rw [e9 448 (by omega)]; exact hy y y0 y1
  refine ⟨InvA_same hI.1 ⟨fun y y0 y1 _ => ey y y0 y1, fun c hc => ec c (by omega) (by omega) (by omega) (by omega) (by omega) (by omega) (by omega)⟩, ?_⟩
  have e100 : M9 100 = M 100 := ec 100 (by omega) (by omega) (by omega) (by omega) (by omega) (by omega) (by omega)
  refine ⟨by rw [e100, ey 1 (by omega) (by omega)]; exact hI.2.1, by rw [e100]; exact Or.inr hl, q, fun _ => ⟨s', ?_⟩, ⟨nxt nx, min (sz + 1) 8, ?_, fun hl0 => by rw [e100] at hl0; omega⟩, ?_⟩
  · refine ⟨RepP.fr hP (fun a a0 a1 => ec a (by omega) (by omega) (by omega) (by omega) (by omega) (by omega) (by omega)), RepS.fr h4 (fun a a0 a1 => e9 a (by omega)), ?_, hV', hQ, h40'⟩
    obtain ⟨-, o2, o3, o4, o5, o6, o7⟩ := hO
    have e4 : ∀ c : Nat, 449 ≤ c → c < 453 → M9 c = M c := fun c c0 c1 => ec c (by omega) (by omega) (by omega) (by omega) (by omega) (by omega) (by omega)
    exact ⟨by rw [e, upM_at], by rw [ey 2 (by omega) (by omega)]; exact o2, by rw [ey 3 (by omega) (by omega)]; exact o3, by rw [e4 _ (by omega) (by omega)]; exact o4, by rw [e4 _ (by omega) (by omega)]; exact o5, by rw [e4 _ (by omega) (by omega)]; exact o6, by rw [e4 _ (by omega) (by omega)]; exact o7⟩
  · exact Hst_mono (Hst_push hH hV h40 (by rw [e9 202 (by omega)]; exact h2) (by rw [e9 202 (by omega)]; exact h3) (RepS.fr h1 (fun a a0 a1 => e9 a (by omega))) (fun a a0 a1 a2 => ec a (by omega) (by omega) (by omega) (by omega) (by omega) (by omega) a2) (by rw [e9 448 (by omega)]; exact h5) (by rw [e9 454 (by omega)]; exact h6)) hb
  · exact Slt_mono (Slt_chg hS hz (ec _ (by omega) (by omega) (by omega) (by omega) (by omega) (by omega) (by omega)) (ec _ (by omega) (by omega) (by omega) (by omega) (by omega) (by omega) (by omega)) (by rw [e100]) (fun a a0 a1 => ec a (by omega) (by omega) (by omega) (by omega) (by omega) (by omega) (by omega)) (by rw [e9 454 (by omega)]; exact h6)) hb
