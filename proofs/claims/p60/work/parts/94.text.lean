/-! TEXTS: what they are (by program, wip/p60/gen) -/
theorem RepT_fr {M M9 : AM} {X : Nat} {t : Tx} (h : RepT M X t) (e : M9 X = M X) (e1 : M9 (X + 1) = M (X + 1)) : RepT M9 X t := by
  obtain ⟨h1, h2, h3⟩ := h
  exact ⟨by rw [e]; exact h1, h2, fun i i0 i1 => by rw [e1]; exact h3 i i0 i1⟩
def Tok (t : Tx) : Prop := 0 ≤ t.1 ∧ ∀ i : Int, 0 ≤ i → i < t.1 → 0 ≤ t.2 i ∧ t.2 i < 128
theorem Tok_say {t : Tx} {c : Int} (h : Tok t) (hc : 0 ≤ c ∧ c < 128) : Tok (say t c) := by
  refine ⟨by have := h.1; show 0 ≤ t.1 + 1; omega, fun i i0 i1 => ?_⟩
  have i1' : i < t.1 + 1 := i1
  show 0 ≤ upI t.2 t.1 c i ∧ upI t.2 t.1 c i < 128
  unfold upI
  by_cases hi : i = t.1
  · rw [if_pos hi]; exact hc
  · rw [if_neg hi]; exact h.2 i i0 (by omega)
theorem Tok_sayN {t : Tx} {v : Int} (h : Tok t) (hv : 0 ≤ v ∧ v ≤ 999) : Tok (sayN t v) := by
  unfold sayN
  split
  · exact Tok_say h (by omega)
  · split
    · exact Tok_say (Tok_say h (by omega)) (by omega)
    · exact Tok_say (Tok_say (Tok_say h (by omega)) (by omega)) (by omega)
theorem Tok_00 : Tok t00 := ⟨by decide, fun i i0 i1 => by have i1' : i < 0 := i1; omega⟩
theorem rods_ok {b : Int} {q s : Int → Int} (hV : Val b q s) (h40 : s 3 ≤ 40) : ∀ k : Nat, (k : Int) ≤ s 3 → (itv (rodsX s) t00 0 k).1 ≤ 8 * k ∧ Tok (itv (rodsX s) t00 0 k) := by
    have y3 := V_3 hV
    intro k
    induction k with
    | zero => exact fun _ => ⟨by show (0 : Int) ≤ 8 * ((0 : Nat) : Int); omega, Tok_00⟩
    | succ k ih =>
      intro hk
      obtain ⟨i1, i2⟩ := ih (by omega)
      rw [itv, Int.zero_add]
      generalize itv (rodsX s) t00 0 k = t at i1 i2 ⊢
      unfold rodsX
      have hd := V_d1 hV (i := (k : Int)) (by omega) (by omega)
      by_cases hs : s (174 + (k : Int)) = 0
      · rw [if_pos hs]
        have h8 := rodX_8 (s := s) (t := t) (r := (k : Int)) i2.1 (by omega)
        refine ⟨by omega, ?_⟩
        unfold rodX
        have hb : Tok (if 0 < t.1 then say t 44 else t) := by
          split
          · exact Tok_say i2 (by omega)
          · exact i2
        have hc := Tok_sayN (Tok_say (Tok_sayN hb (v := (k : Int)) (by omega)) (c := 58) (by omega)) (v := s (94 + (k : Int))) (by omega)
        split
        · exact Tok_say hc (by omega)
        · exact hc
      · rw [if_neg hs]
        exact ⟨by omega, i2⟩
theorem textR_ok {b : Int} {q s : Int → Int} (hV : Val b q s) (h40 : s 3 ≤ 40) : (textR s).1 ≤ 320 ∧ Tok (textR s) := by
  have y3 := V_3 hV
  have h := rods_ok hV h40 (s 3).toNat (by omega)
  unfold textR
  split
  · next hz => exact ⟨by show (itv (rodsX s) t00 0 (s 3).toNat).1 + 1 ≤ 320; omega, Tok_say h.2 (by omega)⟩
  · exact ⟨by omega, h.2⟩
theorem textO_ok {b : Int} {q s : Int → Int} {o : Int} (hV : Val b q s) (ho : 0 ≤ o ∧ o < s 4) : (textO s o).1 ≤ 320 ∧ Tok (textO s o) := by
  have h0 := V_o0 hV ho.1 ho.2
  have h1 := V_o1 hV ho.1 ho.2
  have h3 := V_o3 hV ho.1 ho.2
  have h4 := V_o4 hV ho.1 ho.2
  have h5 := V_o5 hV ho.1 ho.2
  have h6 := V_o6 hV ho.1 ho.2
  have hk : Tok (ordX s o) := by
    unfold ordX
    exact Tok_sayN (Tok_say (Tok_say (Tok_sayN (Tok_say (Tok_sayN (Tok_say (Tok_sayN (Tok_say (Tok_sayN (Tok_say (Tok_sayN Tok_00 (by omega)) (by omega)) (by omega)) (by omega)) (by omega)) (by omega)) (by omega)) (by omega)) (by omega)) (by omega)) (by omega)) (by omega)
  have hn : (ordX s o).1 ≤ 40 := by
    unfold ordX
    have sy : ∀ (t : Tx) (c : Int), (say t c).1 = t.1 + 1 := fun t c => rfl
    have z : t00.1 = 0 := rfl
    have a1 := (sayN_1 (t := t00) (v := s (414 + (8 * o)))).2
    have a2 := (sayN_1 (t := say (sayN t00 (s (414 + (8 * o)))) 120) (v := s ((414 + (8 * o)) + 1))).2
    rw [sy] at a2
    refine Int.le_trans sayN_1.2 ?_
    rw [sy, sy]
    refine Int.le_trans (Int.add_le_add_right (Int.add_le_add_right (Int.add_le_add_right sayN_1.2 1) 1) 3) ?_
    rw [sy]
    refine Int.le_trans (Int.add_le_add_right (Int.add_le_add_right (Int.add_le_add_right (Int.add_le_add_right (Int.add_le_add_right sayN_1.2 1) 3) 1) 1) 3) ?_
    rw [sy]
    refine Int.le_trans (Int.add_le_add_right (Int.add_le_add_right (Int.add_le_add_right (Int.add_le_add_right (Int.add_le_add_right (Int.add_le_add_right (Int.add_le_add_right sayN_1.2 1) 3) 1) 3) 1) 1) 3) ?_
    rw [sy]
    omega
  unfold textO
  split
  · refine ⟨by rw [goneX_1]; omega, ?_⟩
    unfold goneX
    exact Tok_say (Tok_say (Tok_say (Tok_say (Tok_say hk (by omega)) (by omega)) (by omega)) (by omega)) (by omega)
  · exact ⟨by omega, hk⟩
theorem Fr.tr2 {F F' : Nat → Prop} {nc ns nc' ns' : Nat} {g0 g g1 : AG} {M0 M M1 : AM} (h : Fr F nc ns g0 M0 g M) (h' : Fr F' nc' ns' g M g1 M1) (hF : ∀ c : Nat, c < 100 + gN g0 → F' c → F c) : Fr F (nc + nc') (ns + ns') g0 M0 g1 M1 := by
  obtain ⟨a1, a2, a3, a4⟩ := h
  obtain ⟨b1, b2, b3, b4⟩ := h'
  refine ⟨by omega, by omega, by omega, fun c hc => ⟨?_, fun hn => ?_⟩⟩
  · have x1 := (a4 c hc).1
    have x2 := (b4 c (by omega)).1
    exact ⟨x2.1.trans x1.1, x2.2.trans x1.2⟩
  · have x1 := (a4 c hc).2 hn
    have x2 := (b4 c (by omega)).2 (fun hf => hn (hF c hc hf))
    exact ⟨x2.1.trans x1.1, x2.2.trans x1.2⟩
/-- a text is written into a StringBuilder that is new since g0 -/
def TS (g0 : AG) (M0 : AM) (O : Nat) (b : Int) (q s : Int → Int) (g : AG) (M : AM) (B V : Nat) (C : Int) (t : Tx) (nc ns : Nat) : Prop := SB g M B V C t ∧ Fr (FC O) nc (ns + (2 * C).toNat) g0 M0 g M ∧ (100 + gN g0 ≤ B ∧ 100 + gN g0 ≤ V) ∧ C ≤ 2000 ∧ CW g M O b q s ∧ BS g M ∧ (111 ≤ O ∧ O + 348 ≤ 100 + gN g0)
section TS
variable {g0 g g1 : AG} {M0 M M1 : AM} {O B V V1 nc ns : Nat} {b C C1 : Int} {q s : Int → Int} {t t1 : Tx}
theorem TS.sb (h : TS g0 M0 O b q s g M B V C t nc ns) : SB g M B V C t := h.1
theorem TS.f (h : TS g0 M0 O b q s g M B V C t nc ns) : Fr (FC O) nc (ns + (2 * C).toNat) g0 M0 g M := h.2.1
theorem TS.c (h : TS g0 M0 O b q s g M B V C t nc ns) : C ≤ 2000 := h.2.2.2.1
theorem TS.w (h : TS g0 M0 O b q s g M B V C t nc ns) : CW g M O b q s := h.2.2.2.2.1
theorem TS.bs (h : TS g0 M0 O b q s g M B V C t nc ns) : BS g M := h.2.2.2.2.2.1
theorem TS.o (h : TS g0 M0 O b q s g M B V C t nc ns) : 111 ≤ O ∧ O + 348 ≤ 100 + gN g0 := h.2.2.2.2.2.2
theorem TS.y {A : YA} (h : TS g0 M0 O b q s g M B V C t nc ns) (hY : Yd g0 M0 O A s q) : Yd g M O A s q := hY.fc h.f
theorem TS.ap {m : Int} (h : TS g0 M0 O b q s g M B V C t nc ns) (hS : SB g1 M1 B V1 C1 t1) (hG : Gr g M g1 M1 B V V1 C C1 m) (hm : m ≤ 1000) : TS g0 M0 O b q s g1 M1 B V1 C1 t1 (nc + 1) ns := by
  obtain ⟨h1, h2, h3, h4, h5, h6, h7⟩ := h
  have hz := h1.z
  have hn := h2.n
  obtain ⟨e, hv, hc, hc2⟩ := hG
  refine ⟨hS, Fr.w (Fr.tr2 h2 e (fun c c0 hf => by unfold FB at hf; omega)) (Nat.le_refl _) (by omega), ⟨h3.1, by omega⟩, by omega, h5.fr e (fun c c0 c1 hf => by unfold FB at hf; omega), h6.fr e (fun c c0 hf => by unfold FB at hf; omega), h7⟩
theorem TS.x (h : TS g0 M0 O b q s g M B V C t nc ns) (e1 : g1 = am_alloc g 30 0 6) (e2 : M1 = M) : TS g0 M0 O b q s g1 M1 B V C t (nc + 1) (ns + 6) := by
  obtain ⟨h1, h2, h3, h4, h5, h6, h7⟩ := h
  have e := Fr.xx e1 e2
  exact ⟨h1.fr e (fun e => e) (fun e => e), Fr.w (Fr.trans h2 e.of0) (Nat.le_refl _) (by omega), h3, h4, h5.f0 e, h6.fr e (fun _ _ e => e), h7⟩
/-- the class writes its text -/
theorem TS.tx (h : TS g0 M0 O b q s g M B V C t nc ns) (e : ∀ c : Nat, c ≠ O + 346 ∧ c ≠ O + 346 + 1 → M1 c = M c) : TS g0 M0 O b q s g M1 B V C t nc ns := by
  obtain ⟨h1, h2, h3, h4, h5, h6, h7⟩ := h
  have w : Wr O 348 M M1 := fun c hc => e c (by omega)
  have f := Fr.wr (g := g) w
  have hn := h2.n
  have hB : ¬ FC O B := fun hf => by unfold FC at hf; omega
  have hV : ¬ FC O V := fun hf => by unfold FC at hf; omega
  exact ⟨h1.fr f hB hV, Fr.w (Fr.trans h2 f) (by omega) (by omega), h3, h4, ⟨h5.1, h5.2.1.fr (fun c hc => e c (by omega)), h5.2.2⟩, h6.fr f (fun c hc hf => by unfold FC at hf; omega), h7⟩
theorem TS.up {nc' ns' : Nat} (h : TS g0 M0 O b q s g M B V C t nc ns) (h1 : nc ≤ nc') (h2 : ns ≤ ns') : TS g0 M0 O b q s g M B V C t nc' ns' := ⟨h.1, Fr.w h.2.1 h1 (by omega), h.2.2⟩
end TS
theorem o219 : am_oc 219 = 13 := by decide +kernel
theorem m13_320 : am_mlk 13 320 0 187 = true := by decide +kernel
theorem na187 : am_na 187 = 0 := by decide +kernel
theorem nl187 : am_nL 187 = 1 := by decide +kernel
theorem pd187 : ∀ a0 : AV, am_pad 187 [a0] = [a0] := by intros; unfold am_pad; rw [nl187]; rfl
theorem ln187 : 1 ≤ am_nL 187 := by rw [nl187]; decide
theorem rt219 : am_rt 219 = some .boolean := by decide +kernel
theorem m13_323 : am_mlk 13 323 0 188 = true := by decide +kernel
theorem na188 : am_na 188 = 1 := by decide +kernel
theorem nl188 : am_nL 188 = 2 := by decide +kernel
theorem pd188 : ∀ a0 a1 : AV, am_pad 188 [a0, a1] = [a0, a1] := by intros; unfold am_pad; rw [nl188]; rfl
theorem ln188 : 2 ≤ am_nL 188 := by rw [nl188]; decide
/-- the object's text is the builder's -/
theorem t219 {g : AG} {M : AM} {O B V : Nat} {C : Int} {t : Tx} (hS : SB g M B V C t) (hC : C ≤ 2000) (hG : CG g O) (hl : M O 6 = 1) (hT : RepT M (O + 346) t) (ht : t.1 ≤ 320) : Ok 12 219 0 [aR O, aR B, aU] [] g M (fun o g1 M1 => o = .inl (some (aI 1)) ∧ g1 = am_alloc g 30 0 6 ∧ M1 = M) := by
  have hz := hS.z
  refine ok_iconst (pc' := 1) i219_0 rfl <| ok_istoren (pc' := 2) (ls' := [aR O, aR B, aI 0]) i219_1 (bt rfl) rfl rfl <| ?_
  refine ok_lp (σ := Int) (fun i ls g9 M9 => (0 ≤ i ∧ i ≤ t.1) ∧ g9 = g ∧ M9 = M ∧ ls = [aR O, aR B, aI i]) (fun i => (t.1 - i).toNat) ?_ 0 _ g M ⟨by omega, rfl, rfl, rfl⟩
  rintro i ls g9 M9 ⟨hi, rfl, rfl, rfl⟩ ih
  refine ok_iloadn (pc' := 3) i219_2 rfl rfl <| ok_aloadn (pc' := 4) i219_3 rfl rfl <| ?_
  refine ok_cc i219_4 rfl (cl_v o219 m13_320 na187 rfl rfl (bt rfl) (bt rfl) rfl (by rw [hS.k, o187])) ln187 (pd187 (aR B)) <| (Ok.deep (sbL hS) (by omega)).mono (fun o9 g13l M13l p13l => ?_)
  obtain ⟨rfl, eg13l, em13l⟩ := p13l
  rw [eg13l, em13l]
  refine kt_v (pc' := 7) rfl <| ?_
  refine ok_cge (pc1 := 31) (pc2 := 10) i219_7 (by omega) rfl rfl (fun h1 => ?_) (fun h1 => ?_)
  · refine ok_aloadn (pc' := 32) i219_31 rfl rfl <| ok_bipush (v := 15) (pc' := 34) i219_32 rfl rfl <| ok_aloadn (pc' := 35) i219_34 rfl rfl <| ?_
    refine ok_cc i219_35 rfl (cl_v o219 m13_320 na187 rfl rfl (bt rfl) (bt rfl) rfl (by rw [hS.k, o187])) ln187 (pd187 (aR B)) <| (Ok.deep (sbL hS) (by omega)).mono (fun o9 g14l M14l p14l => ?_)
    obtain ⟨rfl, eg14l, em14l⟩ := p14l
    rw [eg14l, em14l]
    refine kt_v (pc' := 38) rfl <| ok_iconst (pc' := 39) i219_38 rfl <| ok_iconst (pc' := 40) i219_39 rfl <| ok_iconst (pc' := 41) i219_40 rfl <| ?_
    refine ok_cc i219_41 rfl (cl_s o219 m13_234 na211 rfl rfl (bt rfl) (bt rfl) rfl) ln211 (pd211 (aR O) (aI 15) (aI t.1) (aI 0) (aI 0) (aI 0)) <| (Ok.deep (t211_2 (k212_15 (lev := 0) (ShYard_k0 hG.y) (by omega) (y142_x (Y := O) (P := O + 38) (A := O + 49) (V := O + 73) (T := O + 74) (K := O + 100) (H := O + 102) (X := O + 346) hG.y hG.x rfl ⟨by omega, by omega⟩ hl hT.1))) (by omega)).mono (fun o9 g15t M15t p15t => ?_)
    obtain ⟨rfl, eg15t, em15t⟩ := p15t
    refine kt_v (pc' := 44) rfl <| ok_iconst (pc' := 45) i219_44 rfl <| ok_kc0 (pc1 := 52) (pc2 := 48) i219_45 (by decide) rfl rfl <| ok_iconst (pc' := 49) i219_48 rfl <| ok_goto (pc' := 53) i219_49 rfl <| ok_iretz i219_53 rt219 (by decide) <| ?_
    exact ⟨rfl, eg15t, em15t⟩
  · refine ok_aloadn (pc' := 11) i219_10 rfl rfl <| ok_iloadn (pc' := 12) i219_11 rfl rfl <| ?_
    refine ok_cc i219_12 rfl (cl_v o219 m13_80 na142 rfl rfl (bt rfl) (bt rfl) rfl (by rw [ShYard_k0 hG.y, o142])) ln142 (pd142 (aR O) (aI i)) <| (Ok.deep (y142 (Y := O) (P := O + 38) (A := O + 49) (V := O + 73) (T := O + 74) (K := O + 100) (H := O + 102) (X := O + 346) (x1 := i) hG.y hG.x ⟨by omega, by omega⟩ ht hl hT.1) (by omega)).mono (fun o9 g16q M16q p16q => ?_)
    obtain ⟨rfl, eg16q, em16q⟩ := p16q
    rw [eg16q, em16q, hT.2.2 i (by omega) (by omega)]
    refine kt_v (pc' := 15) rfl <| ok_aloadn (pc' := 16) i219_15 rfl rfl <| ok_iloadn (pc' := 17) i219_16 rfl rfl <| ?_
    refine ok_cc i219_17 rfl (cl_v o219 m13_323 na188 rfl rfl (bt rfl) (bt rfl) rfl (by rw [hS.k, o188])) ln188 (pd188 (aR B) (aI i)) <| (Ok.deep (sbA (x := i) hS (by omega) ⟨by omega, by omega⟩) (by omega)).mono (fun o9 g17l M17l p17l => ?_)
    obtain ⟨rfl, eg17l, em17l⟩ := p17l
    rw [eg17l, em17l]
    refine kt_v (pc' := 20) rfl <| ok_ceqs (pc1 := 25) (pc2 := 23) i219_20 rfl rfl <| ok_iinc (pc' := 28) (v := (i + 1)) (ls' := [aR O, aR B, aI (i + 1)]) i219_25 rfl rfl rfl rfl <| ok_goto (pc' := 2) i219_28 rfl <| ?_
    exact ih (i + 1) _ _ _ (by omega) ⟨by omega, rfl, rfl, rfl⟩
