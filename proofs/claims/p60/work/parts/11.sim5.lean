/-! THE SMALL MACHINE AND THE MACHINE: arrays, new objects -/
theorem am_ofNat (n : Nat) : Int32.ofNat n = Int32.ofInt (n : Int) := by
  apply Int32.toBitVec_inj.mp
  show BitVec.ofNat 32 n = BitVec.ofInt 32 (n : Int)
  exact (BitVec.ofInt_natCast 32 n).symm
theorem am_toNatI {i : Int} (h : 0 ≤ i) : ((i.toNat : Nat) : Int) = i := Int.toNat_of_nonneg h
theorem am_Rel_push {X : am_X} {g : AG} {M M' : AM} {H H' : Heap} (hR : am_Rel X g M H) {kind len slots : Nat} (hM : ∀ r, r ≠ 100 + gN g → M' r = M r) (hz : H'.size = H.size + 1) (ho : ∀ q, q < H.size → H'[q]? = H[q]?) (hOK : am_OK X (am_alloc g kind len slots) M' H' (100 + gN g)) : am_Rel X (am_alloc g kind len slots) M' H' := by
  obtain ⟨h1, h2, ⟨o1, o2, o3, o4, o5, o6⟩, h4, h5⟩ := hR
  have k1 : ∀ r, r ≠ 100 + gN g → gK (am_alloc g kind len slots) r = gK g r := fun r hr => by show upN _ _ _ r = _; unfold upN; rw [if_neg hr]
  have k2 : ∀ r, r ≠ 100 + gN g → gL (am_alloc g kind len slots) r = gL g r := fun r hr => by show upN _ _ _ r = _; unfold upN; rw [if_neg hr]
  have k3 : ∀ r, r ≠ 100 + gN g → gR (am_alloc g kind len slots) r = gR g r := fun r hr => by show upR _ _ _ r = _; unfold upR; rw [if_neg hr]
  have k4 : gN (am_alloc g kind len slots) = gN g + 1 := rfl
  refine ⟨by rw [hz, h1, k4]; omega, fun q hq => by rw [ho q (by omega)]; exact h2 q hq, ⟨fun r hr => by rw [k1 r (by omega)]; exact o1 r hr, by rw [k2 1 (by omega)]; exact o2, fun j hj => by rw [hM 1 (by omega)]; exact o3 j hj, fun j hj => ?_, ⟨by rw [k2 50 (by omega)]; exact o5.1, fun i hi => by rw [hM 50 (by omega)]; exact o5.2 i hi⟩, ⟨by rw [k2 51 (by omega)]; exact o6.1, fun i hi => by rw [hM 51 (by omega)]; exact o6.2 i hi⟩⟩, fun r hr => by rw [k4] at hr; rw [k1 r (by omega)]; exact h4 r (by omega), fun r hr1 hr2 => ?_⟩
  · obtain ⟨p1, p2, p3⟩ := o4 j hj
    exact ⟨by rw [k3 _ (by omega)]; exact p1, by rw [k2 _ (by omega)]; exact p2, fun i hi => by rw [hM _ (by omega)]; exact p3 i hi⟩
  · by_cases e : r = 100 + gN g
    · rw [e]; exact hOK
    · rw [k4] at hr2
      have hq := ho (xB X + (r - 100)) (by omega)
      have e3 : am_fv X (am_alloc g kind len slots) M' r = am_fv X g M r := by unfold am_fv; rw [k1 r e, k3 r e, hM r e]
      have e4 : am_av X (am_alloc g kind len slots) M' r = am_av X g M r := by unfold am_av; rw [k1 r e, k3 r e, hM r e]
      rcases h5 r hr1 (by omega) with h | h | h
      · exact Or.inl ⟨by rw [k1 r e]; exact h.1, by rw [k1 r e, e3]; exact h.2.kept hq⟩
      · exact Or.inr (Or.inl ⟨by rw [k1 r e]; exact h.1, by rw [k1 r e]; exact h.2.1, by rw [k2 r e]; exact h.2.2.1, by rw [k1 r e, k2 r e, e4, hq]; exact h.2.2.2.1, by rw [k1 r e, k2 r e, hM r e]; exact h.2.2.2.2⟩)
      · exact Or.inr (Or.inr (by rw [k1 r e]; exact h))
section SIM
variable {p : Program} {l : Launch} {e : Env} {R : Room} {s : State} {m : MethodId} {args : Array Value} {below : List Frame} {meth : Method} {c : Code} {H : Heap} {locs : List Loc} {cells slots : Nat} {Q : State → Prop}
variable {X : am_X} {mi pc pc' : Nat} {ls ls' st st' : List AV} {g g' : AG} {M M' : AM} {lsM : Array Slot}
/-- an array of ours: its cell, and that a place is in it -/
theorem am_cellA (hG : am_Gl X) (hF : am_Fx X p l s m args meth c mi) (hR : am_Rel X g M H) {a : Nat} {i : Int} (h0 : 20 ≤ gK g a) (h1 : gK g a < 27) (hi0 : 0 ≤ i) (hi1 : i < gL g a) :
    100 ≤ a ∧ a < 100 + gN g ∧ H[xB X + (a - 100)]? = some (arrV (xA X (gK g a)) (gL g a) (am_av X g M a)) ∧ (∀ N f, s.isArrayOf (arrV (xA X (gK g a)) N f) (am_aty (gK g a))) ∧ (Int32.ofInt i).toNatClampNeg = i.toNat ∧
    ¬ (Int32.ofInt i < 0 ∨ (arrV (xA X (gK g a)) (gL g a) (am_av X g M a)).slots.size ≤ (Int32.ofInt i).toNatClampNeg) ∧ (arrV (xA X (gK g a)) (gL g a) (am_av X g M a)).slots[(Int32.ofInt i).toNatClampNeg]? = some (am_av X g M a i.toNat) := by
  obtain ⟨ha, hb, hl, hc⟩ := am_R_arr hR h0 h1
  obtain ⟨e1, e2⟩ := am_idx hi0 hi1 (by omega)
  refine ⟨ha, hb, hc, (am_arr hG hF h0 h1).1, e2, by rw [arrV_size]; exact e1, ?_⟩
  rw [e2]
  exact arrV_read _ _ (by omega)
theorem am_av20 {a : Nat} (h : gK g a < 23) {i : Int} (h0 : 0 ≤ i) : am_av X g M a i.toNat = .int (Int32.ofInt (M a i)) := by
  unfold am_av
  rw [if_pos h, am_toNatI h0]
/-- the bytes that were there before -/
theorem am_R27 (hG : am_Gl X) (hR : am_Rel X g M H) {a : Nat} (h : gK g a = 27) : ∃ (vv : Nat) (f : Nat → Value), am_V X (aR a) = .ref vv ∧ va_T .byte vv (gL g a) f (xU X) (xS X) (xS X).heap ∧ gL g a < 200 ∧ ∀ i : Nat, i < gL g a → f i = .int (Int32.ofInt (M a i)) := by
  have ha : a < 100 := by
    rcases Nat.lt_or_ge a 100 with q | q
    · exact q
    · rcases Nat.lt_or_ge a (100 + gN g) with q2 | q2
      · rcases hR.2.2.2.2 a q q2 with h9 | h9 | h9
        · have := h9.1; omega
        · omega
        · omega
      · have := hR.2.2.2.1 a q2; omega
  have hk := hR.2.2.1.1 a ha
  have hlt : ∀ j, j < 16 → (am_txt.getD j []).length < 100 := by decide
  have hv : ∀ {v : Nat}, xP X a = .ref v → a ≠ 0 → am_V X (aR a) = .ref v := fun {v} h1 h2 => by
    show am_ad X _ = _
    unfold am_ad
    rw [if_neg h2, if_pos ha, h1]
  rcases am_k0_cases a with h9 | h9 | ⟨h9, ⟨j, hj, rfl⟩ | rfl | rfl⟩ | h9
  · omega
  · omega
  · obtain ⟨aa, vv, p1, p2, p3, p4, p5, p6⟩ := hG.2.2.2.1 j hj
    obtain ⟨m1, m2, m3⟩ := hR.2.2.1.2.2.2.1 j hj
    have := hlt j hj
    exact ⟨vv, _, hv p2 (by omega), by rw [m2]; exact p6, by omega, fun i hi => by rw [m3 i (by omega)]⟩
  · obtain ⟨v, v1, v2, v3⟩ := hG.2.2.2.2.2.2.2.2.2.2.2.2.1
    obtain ⟨m1, m2⟩ := hR.2.2.1.2.2.2.2.1
    exact ⟨v, _, hv v1 (by decide), by rw [m1]; exact v3, by omega, fun i hi => by rw [m2 i (by omega)]⟩
  · obtain ⟨v, v1, v2, v3⟩ := hG.2.2.2.2.2.2.2.2.2.2.2.2.2
    obtain ⟨m1, m2⟩ := hR.2.2.1.2.2.2.2.2
    exact ⟨v, _, hv v1 (by decide), by rw [m1]; exact v3, by omega, fun i hi => by rw [m2 i (by omega)]⟩
  · omega
theorem am_s_iaload (hG : am_Gl X) (hF : am_Fx X p l s m args meth c mi) (hR : am_Rel X g M H) (hl : lv_has lsM (am_nL mi) (am_lv X ls)) (hn : ls.length = am_nL mi) (hq : ∀ q ∈ locs, xB X ≤ q.base)
    (hi : am_ins mi pc = some (.iaload)) (h : am_step mi pc (.iaload) ls st g M = some (pc', ls', st', g', M')) (kk : am_KK X p l e R s m args below meth c cells slots Q mi g pc' ls' st' g' M') :
    W p l e R s m args below meth c H locs cells slots Q (F0 m pc lsM (st.map (am_V X))) := by
  have hF0 := hF
  have hal : (xS X).vm.Alike s.vm := hF.2.2.2.2.2.2.2.2.2.2.1.alike
  obtain ⟨hx, hb, hml, hown, hts, -⟩ := hF
  dsimp only [am_step, am_ald] at h
  split at h
  · next i a st2 =>
    split at h
    · next h1 =>
      obtain ⟨h1, h2, h3⟩ := h1
      simp only [Option.some.injEq, Prod.mk.injEq] at h
      obtain ⟨rfl, rfl, rfl, rfl, rfl⟩ := h
      have k9 := kk H lsM locs cells slots rfl rfl hR hl hn hq
      simp only [List.mem_cons, List.not_mem_nil, or_false] at h1
      rcases h1 with h1 | h1
      · obtain ⟨ha, ha2, hc, hA, e1, e2, e3⟩ := am_cellA hG hF0 hR (by omega) (by omega) h2 h3
        rw [List.map_cons, List.map_cons, show am_V X (aR a) = .ref (xB X + (a - 100)) from am_ad_new ha]
        rw [am_av20 (by omega) h2] at e3
        have hA := hA (gL g a) (am_av X g M a)
        rw [show am_aty (gK g a) = .int by rw [h1]; rfl] at hA
        exact W.iald hx hb hc hA (fun q => by cases q) e2 e3 rfl rfl (am_dec hi rfl) k9
      · have ha : a = 1 := by
          rcases Nat.lt_or_ge a 100 with q | q
          · have := hR.2.2.1.1 a q
            rcases am_k0_cases a with h | h | h | h
            · exact h.2
            · omega
            · omega
            · omega
          · rcases Nat.lt_or_ge a (100 + gN g) with q2 | q2
            · rcases hR.2.2.2.2 a q q2 with h | h | h <;> omega
            · have := hR.2.2.2.1 a q2; omega
        subst ha
        obtain ⟨b, hb1, hX, hb2, hL⟩ := hG.2.2.2.2.1
        obtain ⟨scr, x1, x2, x3, x4, x5⟩ := hX.moved hal
        rw [hR.2.2.1.2.1] at h3
        obtain ⟨e1, e2⟩ := am_idx h2 h3 hL
        have hv := x5 i.toNat (by omega)
        have hM := hR.2.2.1.2.2.1 i.toNat (by omega)
        rw [am_toNatI h2] at hM
        rw [List.map_cons, List.map_cons, show am_V X (aR 1) = .ref b from hb1]
        refine W.iald hx hb (by rw [hR.2.1 b hb2]; exact x1) x2 x3 (by rw [x4]; exact e1) (v := .int (Int32.ofInt (M 1 i))) (by rw [e2, hv, hM, am_ofI]) rfl rfl (am_dec hi rfl) k9
    · cases h
  · cases h
theorem am_s_baload (hG : am_Gl X) (hF : am_Fx X p l s m args meth c mi) (hR : am_Rel X g M H) (hl : lv_has lsM (am_nL mi) (am_lv X ls)) (hn : ls.length = am_nL mi) (hq : ∀ q ∈ locs, xB X ≤ q.base)
    (hi : am_ins mi pc = some (.baload)) (h : am_step mi pc (.baload) ls st g M = some (pc', ls', st', g', M')) (kk : am_KK X p l e R s m args below meth c cells slots Q mi g pc' ls' st' g' M') :
    W p l e R s m args below meth c H locs cells slots Q (F0 m pc lsM (st.map (am_V X))) := by
  have hF0 := hF
  have hal : (xS X).vm.Alike s.vm := hF.2.2.2.2.2.2.2.2.2.2.1.alike
  obtain ⟨hx, hb, hml, hown, hts, -⟩ := hF
  dsimp only [am_step, am_ald] at h
  split at h
  · next i a st2 =>
    split at h
    · next h1 =>
      obtain ⟨h1, h2, h3⟩ := h1
      simp only [Option.some.injEq, Prod.mk.injEq] at h
      obtain ⟨rfl, rfl, rfl, rfl, rfl⟩ := h
      have k9 := kk H lsM locs cells slots rfl rfl hR hl hn hq
      simp only [List.mem_cons, List.not_mem_nil, or_false] at h1
      rcases h1 with h1 | h1 | h1
      · obtain ⟨ha, ha2, hc, hA, e1, e2, e3⟩ := am_cellA hG hF0 hR (by omega) (by omega) h2 h3
        rw [List.map_cons, List.map_cons, show am_V X (aR a) = .ref (xB X + (a - 100)) from am_ad_new ha]
        rw [am_av20 (by omega) h2] at e3
        have hA := hA (gL g a) (am_av X g M a)
        rw [show am_aty (gK g a) = .byte by rw [h1]; rfl] at hA
        exact W.bald hx hb hc hA (fun q => by cases q) e2 e3 rfl rfl (am_dec hi rfl) k9
      · obtain ⟨ha, ha2, hc, hA, e1, e2, e3⟩ := am_cellA hG hF0 hR (by omega) (by omega) h2 h3
        rw [List.map_cons, List.map_cons, show am_V X (aR a) = .ref (xB X + (a - 100)) from am_ad_new ha]
        rw [am_av20 (by omega) h2] at e3
        have hA := hA (gL g a) (am_av X g M a)
        rw [show am_aty (gK g a) = .boolean by rw [h1]; rfl] at hA
        exact W.zald hx hb hc hA (fun q => by cases q) e2 e3 rfl rfl (am_dec hi rfl) k9
      · obtain ⟨vv, f, p1, p6, hlen, hf⟩ := am_R27 hG hR h1
        obtain ⟨cell, c1, c2, c3, c4, c5, c6, c7⟩ := va_T.moved hal p6
        obtain ⟨e1, e2⟩ := am_idx h2 h3 (by omega)
        have hv := c6 i.toNat (by omega)
        have hM := hf i.toNat (by omega)
        rw [am_toNatI h2] at hM
        rw [List.map_cons, List.map_cons, p1]
        refine W.bald hx hb (by rw [hR.2.1 vv (Nat.not_le.mp c7)]; exact c1) c2 c3 ?_ (v := .int (Int32.ofInt (M a i))) (by rw [e2, hv, hM]) rfl rfl (am_dec hi rfl) k9
        rw [e2]
        rw [e2] at e1
        intro q
        rcases q with q | q
        · exact e1 (Or.inl q)
        · omega
    · cases h
  · cases h
theorem am_s_aaload (hG : am_Gl X) (hF : am_Fx X p l s m args meth c mi) (hR : am_Rel X g M H) (hl : lv_has lsM (am_nL mi) (am_lv X ls)) (hn : ls.length = am_nL mi) (hq : ∀ q ∈ locs, xB X ≤ q.base)
    (hi : am_ins mi pc = some (.aaload)) (h : am_step mi pc (.aaload) ls st g M = some (pc', ls', st', g', M')) (kk : am_KK X p l e R s m args below meth c cells slots Q mi g pc' ls' st' g' M') :
    W p l e R s m args below meth c H locs cells slots Q (F0 m pc lsM (st.map (am_V X))) := by
  have hF0 := hF
  obtain ⟨hx, hb, hml, hown, hts, -⟩ := hF
  dsimp only [am_step] at h
  split at h
  · next i a st2 =>
    split at h
    · next h1 =>
      obtain ⟨h1, h2, h3⟩ := h1
      simp only [Option.some.injEq, Prod.mk.injEq] at h
      obtain ⟨rfl, rfl, rfl, rfl, rfl⟩ := h
      have k9 := kk H lsM locs cells slots rfl rfl hR hl hn hq
      simp only [List.mem_cons, List.not_mem_nil, or_false] at h1
      obtain ⟨ha, ha2, hc, hA, e1, e2, e3⟩ := am_cellA hG hF0 hR (by omega) (by omega) h2 h3
      rw [List.map_cons, List.map_cons, show am_V X (aR a) = .ref (xB X + (a - 100)) from am_ad_new ha]
      have hA := hA (gL g a) (am_av X g M a)
      have hrf : (am_aty (gK g a)).isReference = true := by rcases h1 with h1 | h1 | h1 | h1 <;> rw [h1] <;> rfl
      refine W.aald hx hb hc hA hrf (fun q => by cases q) e2 e3 rfl rfl (am_dec hi rfl) ?_
      unfold am_av
      rw [if_neg (by omega), am_toNatI h2]
      exact k9
    · cases h
  · cases h
theorem am_s_arraylength (hG : am_Gl X) (hF : am_Fx X p l s m args meth c mi) (hR : am_Rel X g M H) (hl : lv_has lsM (am_nL mi) (am_lv X ls)) (hn : ls.length = am_nL mi) (hq : ∀ q ∈ locs, xB X ≤ q.base)
    (hi : am_ins mi pc = some (.arraylength)) (h : am_step mi pc (.arraylength) ls st g M = some (pc', ls', st', g', M')) (kk : am_KK X p l e R s m args below meth c cells slots Q mi g pc' ls' st' g' M') :
    W p l e R s m args below meth c H locs cells slots Q (F0 m pc lsM (st.map (am_V X))) := by
  have hF0 := hF
  have hal : (xS X).vm.Alike s.vm := hF.2.2.2.2.2.2.2.2.2.2.1.alike
  obtain ⟨hx, hb, hml, hown, hts, -⟩ := hF
  dsimp only [am_step] at h
  split at h
  · next a st2 =>
    split at h
    · next h1 =>
      simp only [Option.some.injEq, Prod.mk.injEq] at h
      obtain ⟨rfl, rfl, rfl, rfl, rfl⟩ := h
      have k9 := kk H lsM locs cells slots rfl rfl hR hl hn hq
      simp only [List.mem_cons, List.not_mem_nil, or_false] at h1
      rcases (show (20 ≤ gK g a ∧ gK g a < 27) ∨ gK g a = 27 ∨ gK g a = 28 by omega) with h1 | h1 | h1
      · obtain ⟨ha, ha2, hl2, hc⟩ := am_R_arr hR h1.1 h1.2
        rw [List.map_cons, show am_V X (aR a) = .ref (xB X + (a - 100)) from am_ad_new ha]
        exact W.alen hx hb hc ((am_arr hG hF0 h1.1 h1.2).1 _ _) (by rw [arrV_size]; exact am_ofNat _) rfl rfl (am_dec hi rfl) k9
      · obtain ⟨vv, f, p1, p6, hlen, hf⟩ := am_R27 hG hR h1
        obtain ⟨cell, c1, c2, c3, c4, c5, c6, c7⟩ := va_T.moved hal p6
        rw [List.map_cons, p1]
        exact W.alen hx hb (by rw [hR.2.1 vv (Nat.not_le.mp c7)]; exact c1) c2 (by rw [c5]; exact am_ofNat _) rfl rfl (am_dec hi rfl) k9
      · have ha : a = 1 := by
          rcases Nat.lt_or_ge a 100 with q | q
          · have := hR.2.2.1.1 a q
            rcases am_k0_cases a with h | h | h | h
            · exact h.2
            · omega
            · omega
            · omega
          · rcases Nat.lt_or_ge a (100 + gN g) with q2 | q2
            · rcases hR.2.2.2.2 a q q2 with h | h | h <;> omega
            · have := hR.2.2.2.1 a q2; omega
        subst ha
        obtain ⟨b, hb1, hX, hb2, hL⟩ := hG.2.2.2.2.1
        obtain ⟨scr, x1, x2, x3, x4, x5⟩ := hX.moved hal
        rw [List.map_cons, show am_V X (aR 1) = .ref b from hb1]
        exact W.alen hx hb (by rw [hR.2.1 b hb2]; exact x1) x2 (by rw [x4, hR.2.2.1.2.1]; exact am_ofNat _) rfl rfl (am_dec hi rfl) k9
    · cases h
  · cases h
/-- behind a store into an array -/
theorem am_stored (hG : am_Gl X) (hR : am_Rel X g M H) {a : Nat} {i : Int} {v : Value} {H' : Heap} (h0 : 20 ≤ gK g a) (h1 : gK g a < 27) (hi0 : 0 ≤ i) (e1 : gN g' = gN g) (e2 : gK g' = gK g) (e3 : gL g' = gL g) (e4 : ∀ r, r ≠ a → gR g' r = gR g r ∧ M' r = M r)
    (hv : ∀ j : Nat, am_av X g' M' a j = if j = i.toNat then v else am_av X g M a j) (hby : gK g a = 21 → ∀ j : Nat, j < gL g a → -128 ≤ M' a j ∧ M' a j < 128)
    (z1 : H'[xB X + (a - 100)]? = some ((arrV (xA X (gK g a)) (gL g a) (am_av X g M a)).setSlot i.toNat v)) (z2 : H'.size = H.size) (z3 : ∀ q, q ≠ xB X + (a - 100) → H'[q]? = H[q]?) : am_Rel X g' M' H' := by
  obtain ⟨ha, hb, hl, hc⟩ := am_R_arr hR h0 h1
  refine am_Rel_set hR ha hb e1 e2 e3 e4 z2 z3 (Or.inr (Or.inl ⟨by rw [e2]; exact h0, by rw [e2]; exact h1, by rw [e3]; exact hl, ?_, by rw [e2, e3]; exact hby⟩))
  rw [z1, arrV_store, e2, e3]
  refine congrArg (fun f => some (arrV _ _ f)) (funext fun j => ?_)
  rw [hv j]
  rfl
theorem am_s_iastore (hG : am_Gl X) (hF : am_Fx X p l s m args meth c mi) (hR : am_Rel X g M H) (hl : lv_has lsM (am_nL mi) (am_lv X ls)) (hn : ls.length = am_nL mi) (hq : ∀ q ∈ locs, xB X ≤ q.base)
    (hi : am_ins mi pc = some (.iastore)) (h : am_step mi pc (.iastore) ls st g M = some (pc', ls', st', g', M')) (kk : am_KK X p l e R s m args below meth c cells slots Q mi g pc' ls' st' g' M') :
    W p l e R s m args below meth c H locs cells slots Q (F0 m pc lsM (st.map (am_V X))) := by
  have hF0 := hF
  obtain ⟨hx, hb, hml, hown, hts, -⟩ := hF
  dsimp only [am_step] at h
  split at h
  · next x i a st2 =>
    split at h
    · next h1 =>
      obtain ⟨h1, h2, h3⟩ := h1
      simp only [Option.some.injEq, Prod.mk.injEq] at h
      obtain ⟨rfl, rfl, rfl, rfl, rfl⟩ := h
      obtain ⟨ha, ha2, hc, hA, e1, e2, e3⟩ := am_cellA hG hF0 hR (by omega) (by omega) h2 h3
      rw [List.map_cons, List.map_cons, List.map_cons, show am_V X (aR a) = .ref (xB X + (a - 100)) from am_ad_new ha]
      have hA := hA (gL g a) (am_av X g M a)
      rw [show am_aty (gK g a) = .int by rw [h1]; rfl] at hA
      refine W.iast hx hb hc hA (fun q => by cases q) e2 rfl rfl (am_dec hi rfl) (fun H' z1 z2 z3 => ?_)
      rw [e1] at z1
      refine kk H' lsM _ cells slots rfl rfl (am_stored hG hR (by omega) (by omega) h2 rfl rfl rfl (fun r hr => ⟨rfl, by unfold up2 upM; rw [if_neg hr]⟩) (fun j => ?_) (fun h9 => by omega) z1 z2 z3) hl hn (fun q hq2 => ?_)
      · have hji : ((j : Int) = i) ↔ (j = i.toNat) := by omega
        unfold am_av up2 upM upI
        simp only [h1, hji]
        by_cases hj : j = i.toNat
        · have h5 := hji.mpr hj
          rw [if_pos hj]; simp [h5, am_V]
        · have h5 : ¬ (j : Int) = i := fun q => hj (hji.mp q)
          rw [if_neg hj]; simp [h5]
      · rcases List.mem_append.mp hq2 with h | h
        · exact hq q h
        · rw [List.mem_singleton.mp h]; exact Nat.le_add_right _ _
    · cases h
  · cases h
theorem am_s_bastore (hG : am_Gl X) (hF : am_Fx X p l s m args meth c mi) (hR : am_Rel X g M H) (hl : lv_has lsM (am_nL mi) (am_lv X ls)) (hn : ls.length = am_nL mi) (hq : ∀ q ∈ locs, xB X ≤ q.base)
    (hi : am_ins mi pc = some (.bastore)) (h : am_step mi pc (.bastore) ls st g M = some (pc', ls', st', g', M')) (kk : am_KK X p l e R s m args below meth c cells slots Q mi g pc' ls' st' g' M') :
    W p l e R s m args below meth c H locs cells slots Q (F0 m pc lsM (st.map (am_V X))) := by
  have hF0 := hF
  obtain ⟨hx, hb, hml, hown, hts, -⟩ := hF
  dsimp only [am_step] at h
  split at h
  · next x i a st2 =>
    split at h
    · next h1 =>
      obtain ⟨h1, h2, h3⟩ := h1
      simp only [Option.some.injEq, Prod.mk.injEq] at h
      obtain ⟨rfl, rfl, rfl, rfl, rfl⟩ := h
      have h9 : 20 ≤ gK g a ∧ gK g a < 23 := by omega
      obtain ⟨ha, ha2, hc, hA, e1, e2, e3⟩ := am_cellA hG hF0 hR (by omega) (by omega) h2 h3
      rw [List.map_cons, List.map_cons, List.map_cons, show am_V X (aR a) = .ref (xB X + (a - 100)) from am_ad_new ha]
      have hA := hA (gL g a) (am_av X g M a)
      have fin : ∀ H' : Heap, H'[xB X + (a - 100)]? = some ((arrV (xA X (gK g a)) (gL g a) (am_av X g M a)).setSlot (Int32.ofInt i).toNatClampNeg (.int (Int32.ofInt (x.bmod 256)))) → H'.size = H.size → (∀ q, q ≠ xB X + (a - 100) → H'[q]? = H[q]?) →
          W p l e R s m args below meth c H' (locs ++ [⟨xB X + (a - 100), (Int32.ofInt i).toNatClampNeg⟩]) cells slots Q (F0 m (pc + 1) lsM (st2.map (am_V X))) := by
        intro H' z1 z2 z3
        rw [e1] at z1
        refine kk H' lsM _ cells slots rfl rfl (am_stored hG hR (by omega) (by omega) h2 rfl rfl rfl (fun r hr => ⟨rfl, by unfold up2 upM; rw [if_neg hr]⟩) (fun j => ?_) (fun h21 j hj => ?_) z1 z2 z3) hl hn (fun q hq2 => ?_)
        · have hji : ((j : Int) = i) ↔ (j = i.toNat) := by omega
          unfold am_av up2 upM upI
          simp only [h9.2, hji]
          by_cases hj : j = i.toNat
          · have h5 := hji.mpr hj
            rw [if_pos hj]; simp [h5]
          · have h5 : ¬ (j : Int) = i := fun q => hj (hji.mp q)
            rw [if_neg hj]; simp [h5]
        · have hby := am_R_byt hR h21 j hj
          have b1 := Int.le_bmod (x := x) (m := 256) (by decide)
          have b2 := Int.bmod_lt (x := x) (m := 256) (by decide)
          unfold up2 upM upI
          rw [if_pos rfl]
          split
          · omega
          · exact hby
        · rcases List.mem_append.mp hq2 with h | h
          · exact hq q h
          · rw [List.mem_singleton.mp h]; exact Nat.le_add_right _ _
      rcases h1 with h1 | ⟨h1, h4⟩
      · rw [show am_aty (gK g a) = .byte by rw [h1]; rfl] at hA
        refine W.bast hx hb hc hA (fun q => by cases q) e2 rfl rfl (am_dec hi rfl) (fun H' z1 => fin H' ?_)
        rw [z1, show narrow .byte (.int (Int32.ofInt x)) = .int (Int32.ofInt (x.bmod 256)) from congrArg Value.int (am_i2b x)]
      · rw [show am_aty (gK g a) = .boolean by rw [h1]; rfl] at hA
        refine W.zast hx hb hc hA (fun q => by cases q) e2 rfl rfl (am_dec hi rfl) (fun H' z1 => fin H' ?_)
        rw [z1]
        rcases h4 with rfl | rfl
        · rw [show narrow .boolean (.int (Int32.ofInt 0)) = .int (Int32.ofInt ((0 : Int).bmod 256)) by decide]
        · rw [show narrow .boolean (.int (Int32.ofInt 1)) = .int (Int32.ofInt ((1 : Int).bmod 256)) by decide]
    · cases h
  · cases h
theorem am_s_aastore (hG : am_Gl X) (hF : am_Fx X p l s m args meth c mi) (hR : am_Rel X g M H) (hl : lv_has lsM (am_nL mi) (am_lv X ls)) (hn : ls.length = am_nL mi) (hq : ∀ q ∈ locs, xB X ≤ q.base)
    (hi : am_ins mi pc = some (.aastore)) (h : am_step mi pc (.aastore) ls st g M = some (pc', ls', st', g', M')) (kk : am_KK X p l e R s m args below meth c cells slots Q mi g pc' ls' st' g' M') :
    W p l e R s m args below meth c H locs cells slots Q (F0 m pc lsM (st.map (am_V X))) := by
  have hF0 := hF
  have hK := am_Kof hG hF
  obtain ⟨hx, hb, hml, hown, hts, -⟩ := hF
  dsimp only [am_step] at h
  split at h
  · next x i a st2 =>
    split at h
    · next h1 =>
      obtain ⟨h1, h2, h3⟩ := h1
      simp only [Option.some.injEq, Prod.mk.injEq] at h
      obtain ⟨rfl, rfl, rfl, rfl, rfl⟩ := h
      obtain ⟨ha, ha2, hc, hA, e1, e2, e3⟩ := am_cellA hG hF0 hR (by omega) (by omega) h2 h3
      have hx1 : 100 ≤ x := by
        rcases h1 with h1 | h1 | h1 | h1
        · exact (am_R_obj hR (r := x) (by rw [h1.2]; decide)).1
        · exact (am_R_arr hR (r := x) (by omega) (by omega)).1
        · exact (am_R_obj hR (r := x) (by rw [h1.2]; decide)).1
        · exact (am_R_obj hR (r := x) (by rw [h1.2]; decide)).1
      rw [List.map_cons, List.map_cons, List.map_cons, show am_V X (aR a) = .ref (xB X + (a - 100)) from am_ad_new ha, show am_V X (aR x) = .ref (xB X + (x - 100)) from am_ad_new hx1]
      have hge : 23 ≤ gK g a := by omega
      have fin : ∀ H' : Heap, H'[xB X + (a - 100)]? = some ((arrV (xA X (gK g a)) (gL g a) (am_av X g M a)).setSlot (Int32.ofInt i).toNatClampNeg (.ref (xB X + (x - 100)))) → H'.size = H.size → (∀ q, q ≠ xB X + (a - 100) → H'[q]? = H[q]?) → W p l e R s m args below meth c H' (locs ++ [⟨xB X + (a - 100), (Int32.ofInt i).toNatClampNeg⟩]) cells slots Q (F0 m (pc + 1) lsM (st2.map (am_V X))) := by
        intro H' z1 z2 z3
        rw [e1] at z1
        refine kk H' lsM _ cells slots rfl rfl (am_stored (g' := (gN g, gS g, gK g, gL g, up2R (gR g) a i x)) hG hR (by omega) (by omega) h2 rfl rfl rfl (fun r hr => ⟨by show up2R _ _ _ _ r = _; unfold up2R upR; rw [if_neg hr], rfl⟩) (fun j => ?_) (fun h9 => by omega) z1 z2 z3) hl hn (fun q hq2 => ?_)
        · have hji : ((j : Int) = i) ↔ (j = i.toNat) := by omega
          have hlt : ¬ gK g a < 23 := by omega
          unfold am_av
          show (if gK g a < 23 then _ else am_ad X (up2R (gR g) a i x a j)) = _
          unfold up2R upR
          simp only [hlt, if_false, if_true, hji]
          by_cases hj : j = i.toNat
          · have h5 := hji.mpr hj
            rw [if_pos hj]; simp [hj, am_ad_new hx1]
          · have h5 : ¬ (j : Int) = i := fun q => hj (hji.mp q)
            rw [if_neg hj]; simp [hj]
        · rcases List.mem_append.mp hq2 with h | h
          · exact hq q h
          · rw [List.mem_singleton.mp h]; exact Nat.le_add_right _ _
      have obj : ∀ (k cv : Nat) (C : String), gK g a = k → gK g x = cv → am_ob cv → am_cn cv = C → (am_cr cv).1 = C → va_RA s (xA X k) (.object C) → W p l e R s m args below meth c H locs cells slots Q (F0 m pc lsM (.ref (xB X + (x - 100)) :: .int (Int32.ofInt i) :: .ref (xB X + (a - 100)) :: st2.map (am_V X))) := by
        intro k cv C hk hcv hob hC hC2 hRA
        obtain ⟨hx1, hx2, cvl, v1, v2, v3, v4⟩ := am_R_obj hR (r := x) (by rw [hcv]; exact hob)
        rw [hcv] at v2
        obtain ⟨kA, comp, r1, r2, r3, r4⟩ := hRA
        obtain ⟨n1, n2⟩ := am_nf_ok cv (by omega)
        obtain ⟨-, hfc, kC, hkC, hkind⟩ := hK.1 cv _ n1
        rw [hC2] at hfc
        have hcc : comp = (xD X).1 cv := Option.some.inj (r3.symm.trans hfc)
        exact W.aast hx hb (k := kA) (kv := kC) (kcomp := kC) (comp := comp) (t := .object C) hc (fun q h => by cases h) (fun h => by cases h) (by rw [hk]; exact r1) r2 rfl (by rw [hcc]; exact hkC) ⟨fun h => e2 (Or.inl h), Nat.not_le.mp fun h => e2 (Or.inr h)⟩ v1 (fun q h => by rw [v3] at h; cases h) (by rw [v2]; exact hkC) (by rw [v2, hcc]; exact va_asg _ _) rfl rfl (am_dec hi rfl) fin
      rcases h1 with ⟨k1, k2⟩ | ⟨k1, k2⟩ | ⟨k1, k2⟩ | ⟨k1, k2⟩
      · exact obj 26 5 "RodYard$State" k1 k2 (by decide) (by decide +kernel) (by decide +kernel) (am_arr hG hF0 (k := 26) (by omega) (by omega)).2
      · obtain ⟨y1, y2, y3, y4⟩ := am_R_arr hR (r := x) (by omega) (by omega)
        rw [k2] at y4
        have hT : s.vm.findClass "[I" = some (xA X 20) := (am_arr hG hF0 (k := 20) (by omega) (by omega)).2
        obtain ⟨comp, cA, kA, q1, q2, q3, q4, q5⟩ := arrayOverA_spec (va_AOA.moved (t := .int) hF0.2.2.2.2.2.2.2.2.2.2.1.alike hG.2.2.2.2.2.2.2.2.2.2.2.1)
        have eA : cA = xA X 25 := by
          have h9 : s.vm.findClass "[[I" = some (xA X 25) := (am_arr hG hF0 (k := 25) (by omega) (by omega)).2
          exact Option.some.inj (q5.symm.trans h9)
        have eC : comp = xA X 20 := Option.some.inj (q1.symm.trans hT)
        obtain ⟨-, kI, hkI, compI, hkindI⟩ := (am_arr hG hF0 (k := 20) (by omega) (by omega)).1 0 (fun _ => .null)
        exact W.aast hx hb (k := kA) (kv := kI) (kcomp := kI) (comp := comp) (t := .array .int) hc (fun q h => by cases h) (fun h => by cases h) (by rw [k1, ← eA]; exact q3) q4 rfl (by rw [eC]; exact hkI) ⟨fun h => e2 (Or.inl h), Nat.not_le.mp fun h => e2 (Or.inr h)⟩ y4 (fun q h => by cases h) hkI (by rw [eC]; exact va_asg _ _) rfl rfl (am_dec hi rfl) fin
      · exact obj 23 16 "RodYardLaw$Rod" k1 k2 (by decide) (by decide +kernel) (by decide +kernel) (am_arr hG hF0 (k := 23) (by omega) (by omega)).2
      · exact obj 24 15 "RodYardLaw$Order" k1 k2 (by decide) (by decide +kernel) (by decide +kernel) (am_arr hG hF0 (k := 24) (by omega) (by omega)).2
    · cases h
  · cases h
end SIM
